set_option maxHeartbeats 4000000 in
set_option maxRecDepth 100000 in
theorem m_in (l : Launch) (D : va_G) (cI cP cR : ClassId) (q lo hi : Int32) : pw_Mp l yX3_in wsX3_in ({ frames := 0, cells := 0, slots := 0, locals := 0 } : Room) D cI cP cR [.int (q), .int (lo), .int (hi)] ([]) (.int (if lo ≤ q ∧ q ≤ hi then 1 else 0)) := by
  refine pw_ofp (cc := cX3_in) (maxL := 3) (ret := (some .boolean)) (own := RX3) (by decide +kernel) rfl rfl (Nat.le_of_ble_eq_true rfl) ?_
  intro p_ e_ s m bel meth cd hE hK hP hD ls hl
  obtain ⟨hx, hb, hr, hml, hown, hts, hlocks⟩ := hE
  have hNW := hK.2
  have hl : lv_has ls 3 [(0, .int (q)), (1, .int (lo)), (2, .int (hi))] := hl
  refine lv_iload_n hx hb dX3_in_0 rfl (lv_at hl 0 rfl) ?_
  refine lv_iload_n hx hb dX3_in_1 rfl (lv_at hl 1 rfl) ?_
  refine lv_icmp_lt (tgt := 14) hx hb dX3_in_2 (by decide) (fun c_1 => ?_) (fun c_1 => ?_)
  · have _h := c_1
    refine lv_iconst (v := nI 0) hx hb dX3_in_14 (by decide) ?_
    exact pw_piret hx hb hr (rfl) hlocks dX3_in_15 (by rw [if_neg (fun h => by first | exact absurd h.1 (Int32.not_le.mpr (by assumption)) | exact absurd h.2 (Int32.not_le.mpr (by assumption)))]; rfl)
  · have _h := c_1
    refine lv_iload_n hx hb dX3_in_5 rfl (lv_at hl 0 rfl) ?_
    refine lv_iload_n hx hb dX3_in_6 rfl (lv_at hl 2 rfl) ?_
    refine lv_icmp_gt (tgt := 14) hx hb dX3_in_7 (by decide) (fun c_2 => ?_) (fun c_2 => ?_)
    · have _h := c_2
      refine lv_iconst (v := nI 0) hx hb dX3_in_14 (by decide) ?_
      exact pw_piret hx hb hr (rfl) hlocks dX3_in_15 (by rw [if_neg (fun h => by first | exact absurd h.1 (Int32.not_le.mpr (by assumption)) | exact absurd h.2 (Int32.not_le.mpr (by assumption)))]; rfl)
    · have _h := c_2
      refine lv_iconst (v := nI 1) hx hb dX3_in_10 (by decide) ?_
      refine lv_goto (tgt := 15) hx hb dX3_in_11 (by decide) ?_
      exact pw_piret hx hb hr (rfl) hlocks dX3_in_15 (by rw [if_pos ⟨Int32.not_lt.mp (by assumption), Int32.not_lt.mp (by assumption)⟩]; rfl)
theorem m_in_t (l : Launch) (D : va_G) (cI cP cR : ClassId) (q lo hi : Int32) (hq0 : lo ≤ q ∧ q ≤ hi) : pw_Mp l yX3_in wsX3_in ({ frames := 0, cells := 0, slots := 0, locals := 0 } : Room) D cI cP cR [.int (q), .int (lo), .int (hi)] ([]) (.int (nI 1)) := by
  have h := m_in l D cI cP cR q lo hi
  rw [if_pos hq0] at h
  exact h
theorem m_in_f (l : Launch) (D : va_G) (cI cP cR : ClassId) (q lo hi : Int32) (hq0 : ¬ (lo ≤ q ∧ q ≤ hi)) : pw_Mp l yX3_in wsX3_in ({ frames := 0, cells := 0, slots := 0, locals := 0 } : Room) D cI cP cR [.int (q), .int (lo), .int (hi)] ([]) (.int (nI 0)) := by
  have h := m_in l D cI cP cR q lo hi
  rw [if_neg hq0] at h
  exact h
set_option maxHeartbeats 4000000 in
set_option maxRecDepth 100000 in
theorem m_isRow_t (l : Launch) (D : va_G) (cI cP cR : ClassId) (i : Nat) (hi : i < 3) : pw_Mp l yX3_isRow wsX3_isRow ({ frames := 1, cells := 0, slots := 0, locals := 22 } : Room) D cI cP cR [.int (nI i)] ([]) (.int (nI 1)) := by
  refine pw_ofp (cc := cX3_isRow) (maxL := 1) (ret := (some .boolean)) (own := RX3) (by decide +kernel) rfl rfl (Nat.le_of_ble_eq_true rfl) ?_
  intro p_ e_ s m bel meth cd hE hK hP hD ls hl
  obtain ⟨hx, hb, hr, hml, hown, hts, hlocks⟩ := hE
  have hNW := hK.2
  have hl : lv_has ls 1 [(0, .int (nI i))] := hl
  refine lv_iload_n hx hb dX3_isRow_0 rfl (lv_at hl 0 rfl) ?_
  refine lv_iconst (v := nI 0) hx hb dX3_isRow_1 (by decide) ?_
  refine lv_iconst (v := nI 2) hx hb dX3_isRow_2 (by decide) ?_
  -- m_in_t
  refine pw_cSp (As := [.int (nI i), .int (nI 0), .int (nI 2)]) (rest := []) ⟨hx, hb, hml, hown, hts⟩ (m_in_t l D cI cP cR (nI i) (nI 0) (nI 2) (⟨pw_ge0 (by omega), (pw_leN (by omega) (by omega)).mpr (by omega)⟩)) (va_cwS 3 hts gX3_isRow_X3_in rfl rfl rfl (by decide +kernel) ⟨Nat.le_of_ble_eq_true rfl, Nat.le_of_ble_eq_true rfl⟩) hK rfl hl.1 rfl (Nat.le_of_ble_eq_true rfl) dX3_isRow_3 ⟨Nat.zero_le _, Nat.zero_le _⟩ ?_
  exact pw_piret hx hb hr (rfl) hlocks dX3_isRow_6 (rfl)
set_option maxHeartbeats 4000000 in
set_option maxRecDepth 100000 in
theorem m_isRow_f (l : Launch) (D : va_G) (cI cP cR : ClassId) (q : Int32) (hq : ¬ (0 ≤ q ∧ q < nI 3)) : pw_Mp l yX3_isRow wsX3_isRow ({ frames := 1, cells := 0, slots := 0, locals := 22 } : Room) D cI cP cR [.int (q)] ([]) (.int (nI 0)) := by
  refine pw_ofp (cc := cX3_isRow) (maxL := 1) (ret := (some .boolean)) (own := RX3) (by decide +kernel) rfl rfl (Nat.le_of_ble_eq_true rfl) ?_
  intro p_ e_ s m bel meth cd hE hK hP hD ls hl
  obtain ⟨hx, hb, hr, hml, hown, hts, hlocks⟩ := hE
  have hNW := hK.2
  have hl : lv_has ls 1 [(0, .int (q))] := hl
  refine lv_iload_n hx hb dX3_isRow_0 rfl (lv_at hl 0 rfl) ?_
  refine lv_iconst (v := nI 0) hx hb dX3_isRow_1 (by decide) ?_
  refine lv_iconst (v := nI 2) hx hb dX3_isRow_2 (by decide) ?_
  -- m_in_f
  refine pw_cSp (As := [.int (q), .int (nI 0), .int (nI 2)]) (rest := []) ⟨hx, hb, hml, hown, hts⟩ (m_in_f l D cI cP cR q (nI 0) (nI 2) (fun h => hq ⟨h.1, (pw_lt1 (by decide)).mp h.2⟩)) (va_cwS 3 hts gX3_isRow_X3_in rfl rfl rfl (by decide +kernel) ⟨Nat.le_of_ble_eq_true rfl, Nat.le_of_ble_eq_true rfl⟩) hK rfl hl.1 rfl (Nat.le_of_ble_eq_true rfl) dX3_isRow_3 ⟨Nat.zero_le _, Nat.zero_le _⟩ ?_
  exact pw_piret hx hb hr (rfl) hlocks dX3_isRow_6 (rfl)
set_option maxHeartbeats 4000000 in
set_option maxRecDepth 100000 in
theorem m_isName_t (l : Launch) (D : va_G) (cI cP cR : ClassId) (i : Nat) (hi : i < 10) : pw_Mp l yX3_isName wsX3_isName ({ frames := 1, cells := 0, slots := 0, locals := 22 } : Room) D cI cP cR [.int (nI i)] ([]) (.int (nI 1)) := by
  refine pw_ofp (cc := cX3_isName) (maxL := 1) (ret := (some .boolean)) (own := RX3) (by decide +kernel) rfl rfl (Nat.le_of_ble_eq_true rfl) ?_
  intro p_ e_ s m bel meth cd hE hK hP hD ls hl
  obtain ⟨hx, hb, hr, hml, hown, hts, hlocks⟩ := hE
  have hNW := hK.2
  have hl : lv_has ls 1 [(0, .int (nI i))] := hl
  refine lv_iload_n hx hb dX3_isName_0 rfl (lv_at hl 0 rfl) ?_
  refine lv_iconst (v := nI 0) hx hb dX3_isName_1 (by decide) ?_
  refine lv_bipush (v := nI 9) hx hb dX3_isName_2 (by decide) ?_
  -- m_in_t
  refine pw_cSp (As := [.int (nI i), .int (nI 0), .int (nI 9)]) (rest := []) ⟨hx, hb, hml, hown, hts⟩ (m_in_t l D cI cP cR (nI i) (nI 0) (nI 9) (⟨pw_ge0 (by omega), (pw_leN (by omega) (by omega)).mpr (by omega)⟩)) (va_cwS 3 hts gX3_isName_X3_in rfl rfl rfl (by decide +kernel) ⟨Nat.le_of_ble_eq_true rfl, Nat.le_of_ble_eq_true rfl⟩) hK rfl hl.1 rfl (Nat.le_of_ble_eq_true rfl) dX3_isName_4 ⟨Nat.zero_le _, Nat.zero_le _⟩ ?_
  exact pw_piret hx hb hr (rfl) hlocks dX3_isName_7 (rfl)
set_option maxHeartbeats 4000000 in
set_option maxRecDepth 100000 in
theorem m_isName_f (l : Launch) (D : va_G) (cI cP cR : ClassId) (q : Int32) (hq : ¬ (0 ≤ q ∧ q < nI 10)) : pw_Mp l yX3_isName wsX3_isName ({ frames := 1, cells := 0, slots := 0, locals := 22 } : Room) D cI cP cR [.int (q)] ([]) (.int (nI 0)) := by
  refine pw_ofp (cc := cX3_isName) (maxL := 1) (ret := (some .boolean)) (own := RX3) (by decide +kernel) rfl rfl (Nat.le_of_ble_eq_true rfl) ?_
  intro p_ e_ s m bel meth cd hE hK hP hD ls hl
  obtain ⟨hx, hb, hr, hml, hown, hts, hlocks⟩ := hE
  have hNW := hK.2
  have hl : lv_has ls 1 [(0, .int (q))] := hl
  refine lv_iload_n hx hb dX3_isName_0 rfl (lv_at hl 0 rfl) ?_
  refine lv_iconst (v := nI 0) hx hb dX3_isName_1 (by decide) ?_
  refine lv_bipush (v := nI 9) hx hb dX3_isName_2 (by decide) ?_
  -- m_in_f
  refine pw_cSp (As := [.int (q), .int (nI 0), .int (nI 9)]) (rest := []) ⟨hx, hb, hml, hown, hts⟩ (m_in_f l D cI cP cR q (nI 0) (nI 9) (fun h => hq ⟨h.1, (pw_lt1 (by decide)).mp h.2⟩)) (va_cwS 3 hts gX3_isName_X3_in rfl rfl rfl (by decide +kernel) ⟨Nat.le_of_ble_eq_true rfl, Nat.le_of_ble_eq_true rfl⟩) hK rfl hl.1 rfl (Nat.le_of_ble_eq_true rfl) dX3_isName_4 ⟨Nat.zero_le _, Nat.zero_le _⟩ ?_
  exact pw_piret hx hb hr (rfl) hlocks dX3_isName_7 (rfl)
set_option maxHeartbeats 4000000 in
set_option maxRecDepth 100000 in
theorem m_isPeg_t (l : Launch) (D : va_G) (cI cP cR : ClassId) (i : Nat) (hi : i < 4) : pw_Mp l yX3_isPeg wsX3_isPeg ({ frames := 1, cells := 0, slots := 0, locals := 22 } : Room) D cI cP cR [.int (nI i)] ([]) (.int (nI 1)) := by
  refine pw_ofp (cc := cX3_isPeg) (maxL := 1) (ret := (some .boolean)) (own := RX3) (by decide +kernel) rfl rfl (Nat.le_of_ble_eq_true rfl) ?_
  intro p_ e_ s m bel meth cd hE hK hP hD ls hl
  obtain ⟨hx, hb, hr, hml, hown, hts, hlocks⟩ := hE
  have hNW := hK.2
  have hl : lv_has ls 1 [(0, .int (nI i))] := hl
  refine lv_iload_n hx hb dX3_isPeg_0 rfl (lv_at hl 0 rfl) ?_
  refine lv_iconst (v := nI 0) hx hb dX3_isPeg_1 (by decide) ?_
  refine lv_iconst (v := nI 3) hx hb dX3_isPeg_2 (by decide) ?_
  -- m_in_t
  refine pw_cSp (As := [.int (nI i), .int (nI 0), .int (nI 3)]) (rest := []) ⟨hx, hb, hml, hown, hts⟩ (m_in_t l D cI cP cR (nI i) (nI 0) (nI 3) (⟨pw_ge0 (by omega), (pw_leN (by omega) (by omega)).mpr (by omega)⟩)) (va_cwS 3 hts gX3_isPeg_X3_in rfl rfl rfl (by decide +kernel) ⟨Nat.le_of_ble_eq_true rfl, Nat.le_of_ble_eq_true rfl⟩) hK rfl hl.1 rfl (Nat.le_of_ble_eq_true rfl) dX3_isPeg_3 ⟨Nat.zero_le _, Nat.zero_le _⟩ ?_
  exact pw_piret hx hb hr (rfl) hlocks dX3_isPeg_6 (rfl)
set_option maxHeartbeats 4000000 in
set_option maxRecDepth 100000 in
theorem m_isPeg_f (l : Launch) (D : va_G) (cI cP cR : ClassId) (q : Int32) (hq : ¬ (0 ≤ q ∧ q < nI 4)) : pw_Mp l yX3_isPeg wsX3_isPeg ({ frames := 1, cells := 0, slots := 0, locals := 22 } : Room) D cI cP cR [.int (q)] ([]) (.int (nI 0)) := by
  refine pw_ofp (cc := cX3_isPeg) (maxL := 1) (ret := (some .boolean)) (own := RX3) (by decide +kernel) rfl rfl (Nat.le_of_ble_eq_true rfl) ?_
  intro p_ e_ s m bel meth cd hE hK hP hD ls hl
  obtain ⟨hx, hb, hr, hml, hown, hts, hlocks⟩ := hE
  have hNW := hK.2
  have hl : lv_has ls 1 [(0, .int (q))] := hl
  refine lv_iload_n hx hb dX3_isPeg_0 rfl (lv_at hl 0 rfl) ?_
  refine lv_iconst (v := nI 0) hx hb dX3_isPeg_1 (by decide) ?_
  refine lv_iconst (v := nI 3) hx hb dX3_isPeg_2 (by decide) ?_
  -- m_in_f
  refine pw_cSp (As := [.int (q), .int (nI 0), .int (nI 3)]) (rest := []) ⟨hx, hb, hml, hown, hts⟩ (m_in_f l D cI cP cR q (nI 0) (nI 3) (fun h => hq ⟨h.1, (pw_lt1 (by decide)).mp h.2⟩)) (va_cwS 3 hts gX3_isPeg_X3_in rfl rfl rfl (by decide +kernel) ⟨Nat.le_of_ble_eq_true rfl, Nat.le_of_ble_eq_true rfl⟩) hK rfl hl.1 rfl (Nat.le_of_ble_eq_true rfl) dX3_isPeg_3 ⟨Nat.zero_le _, Nat.zero_le _⟩ ?_
  exact pw_piret hx hb hr (rfl) hlocks dX3_isPeg_6 (rfl)
theorem hi_X3_refuse_3 : ∀ w ∈ u_ws RX3 TX3 11, w ∈ wsX3_refuse := by decide +kernel
theorem hf_X3_refuse_16 : Cond.fieldLink RX3 16 "PegrowModel" "refusals" "[I" ∈ wsX3_refuse := by decide +kernel
set_option maxHeartbeats 4000000 in
set_option maxRecDepth 100000 in
theorem m_refuse (l : Launch) (D : va_G) (cI cP cR : ClassId) (x t z rf rw pl hd ha lo ol as_ md : Nat) (RF : Nat → Int32) (k : Nat) (q : Int32) (hk : k < 4) : pw_Mm l yX3_refuse wsX3_refuse ({ frames := 0, cells := 0, slots := 0, locals := 0 } : Room) D cI cP cR [.ref x, .int (nI k), .int (q)] ([(x, .inr (3, [.ref t, .ref z, .int (nI md), .ref rf, .ref rw, .ref pl, .ref hd, .ref ha, .ref lo, .ref ol, .ref as_])), (rf, .inl (cI, 4, .inl (RF)))]) (fun v w => v = some (.int (q)) ∧ w = [(x, .inr (3, [.ref t, .ref z, .int (nI md), .ref rf, .ref rw, .ref pl, .ref hd, .ref ha, .ref lo, .ref ol, .ref as_])), (rf, .inl (cI, 4, .inl (upd RF k (RF k + nI 1))))]) := by
  refine pw_ofm (cc := cX3_refuse) (maxL := 3) (ret := (some .int)) (own := RX3) (by decide +kernel) rfl rfl (Nat.le_of_ble_eq_true rfl) ?_
  intro p_ e_ s m bel meth cd A hE hK hP hD hA hS ls hl
  obtain ⟨hx, hb, hr, hml, hown, hts, hlocks⟩ := hE
  have hNW := hK.2
  have hl : lv_has ls 3 [(0, .ref x), (1, .int (nI k)), (2, .int (q))] := hl
  refine lv_aload_n hx hb dX3_refuse_0 rfl (lv_at hl 0 rfl) ?_
  refine va_get (D := D) (ci := 3) (v := .ref rf) (C := RX3) (T := TX3) (N := 11) hx hb hts hi_X3_refuse_3 hown hK.1 hP 0 rfl rfl 3 (by decide) (hts _ hf_X3_refuse_16) (fun _ h9 => h9) rfl dX3_refuse_1 ?_
  refine lv_iload_n hx hb dX3_refuse_4 rfl (lv_at hl 1 rfl) ?_
  refine lv_dup2_11 hx hb dX3_refuse_5 rfl rfl ?_
  refine pw_iald hx hb hK.1 hP 1 0 rfl rfl (by decide) (by omega) dX3_refuse_6 ?_
  refine lv_iconst (v := nI 1) hx hb dX3_refuse_7 (by decide) ?_
  refine lv_iadd hx hb dX3_refuse_8 ?_
  refine pw_iast hx hb hK.1 hP hD hS 1 0 rfl rfl (by decide) (by omega) dX3_refuse_9 (fun H locs hP hD hS => ?_)
  have hP : va_P D vwCl ([(x, .inr (3, [.ref t, .ref z, .int (nI md), .ref rf, .ref rw, .ref pl, .ref hd, .ref ha, .ref lo, .ref ol, .ref as_])), (rf, .inl (cI, 4, .inl (upd RF k ((RF k) + (nI 1)))))]) H := hP
  have hD : va_D A ([(x, .inr (3, [.ref t, .ref z, .int (nI md), .ref rf, .ref rw, .ref pl, .ref hd, .ref ha, .ref lo, .ref ol, .ref as_])), (rf, .inl (cI, 4, .inl (upd RF k ((RF k) + (nI 1)))))]) := hD
  refine lv_iload_n hx hb dX3_refuse_10 rfl (lv_at hl 2 rfl) ?_
  have hP := hP.sub (ws' := [(x, .inr (3, [.ref t, .ref z, .int (nI md), .ref rf, .ref rw, .ref pl, .ref hd, .ref ha, .ref lo, .ref ol, .ref as_])), (rf, .inl (cI, 4, .inl (upd RF k ((RF k) + (nI 1)))))]) [0, 1] rfl
  have hD := hD.sub (ws' := [(x, .inr (3, [.ref t, .ref z, .int (nI md), .ref rf, .ref rw, .ref pl, .ref hd, .ref ha, .ref lo, .ref ol, .ref as_])), (rf, .inl (cI, 4, .inl (upd RF k ((RF k) + (nI 1)))))]) [0, 1] (by decide) rfl
  exact pw_iret hx hb hr (rfl) hlocks dX3_refuse_11 hS hP hD (⟨rfl, rfl⟩)
theorem hi_X3_make_3 : ∀ w ∈ u_ws RX3 TX3 11, w ∈ wsX3_make := by decide +kernel
theorem hf_X3_make_44 : Cond.fieldLink RX3 44 "PegrowModel" "made" "I" ∈ wsX3_make := by decide +kernel
set_option maxHeartbeats 4000000 in
set_option maxRecDepth 100000 in
theorem m_make (l : Launch) (D : va_G) (cI cP cR : ClassId) (x t z rf rw pl hd ha lo ol as_ md : Nat) (nm : Nat) : pw_Mm l yX3_make wsX3_make ({ frames := 0, cells := 0, slots := 0, locals := 0 } : Room) D cI cP cR [.ref x, .int (nI nm)] ([(x, .inr (3, [.ref t, .ref z, .int (nI md), .ref rf, .ref rw, .ref pl, .ref hd, .ref ha, .ref lo, .ref ol, .ref as_]))]) (fun v w => v = some (.int (nI ((md * 10) + nm))) ∧ w = [(x, .inr (3, [.ref t, .ref z, .int (nI (md + 1)), .ref rf, .ref rw, .ref pl, .ref hd, .ref ha, .ref lo, .ref ol, .ref as_]))]) := by
  refine pw_ofm (cc := cX3_make) (maxL := 2) (ret := (some .int)) (own := RX3) (by decide +kernel) rfl rfl (Nat.le_of_ble_eq_true rfl) ?_
  intro p_ e_ s m bel meth cd A hE hK hP hD hA hS ls hl
  obtain ⟨hx, hb, hr, hml, hown, hts, hlocks⟩ := hE
  have hNW := hK.2
  have hl : lv_has ls 2 [(0, .ref x), (1, .int (nI nm))] := hl
  refine lv_aload_n hx hb dX3_make_0 rfl (lv_at hl 0 rfl) ?_
  refine lv_dup hx hb dX3_make_1 rfl ?_
  refine va_get (D := D) (ci := 3) (v := .int (nI md)) (C := RX3) (T := TX3) (N := 11) hx hb hts hi_X3_make_3 hown hK.1 hP 0 rfl rfl 2 (by decide) (hts _ hf_X3_make_44) (fun _ h9 => h9) rfl dX3_make_2 ?_
  refine lv_iconst (v := nI 1) hx hb dX3_make_5 (by decide) ?_
  refine pw_iadd hx hb dX3_make_6 ?_
  refine va_put (D := D) (ci := 3) (v := .int (nI (md + 1))) (ty := .int) (C := RX3) (T := TX3) (N := 11) hx hb hts hi_X3_make_3 tyX3 tyX3_ok nmX3 hown hK.1 hP hD hS 0 rfl rfl 2 (by decide) (hts _ hf_X3_make_44) (fun _ h9 => h9) rfl (by decide +kernel) rfl rfl (Nat.le_of_ble_eq_true rfl) dX3_make_7 (fun H locs hP hD hS => ?_)
  have hP : va_P D vwCl ([(x, .inr (3, [.ref t, .ref z, .int (nI (md + 1)), .ref rf, .ref rw, .ref pl, .ref hd, .ref ha, .ref lo, .ref ol, .ref as_]))]) H := hP
  have hD : va_D A ([(x, .inr (3, [.ref t, .ref z, .int (nI (md + 1)), .ref rf, .ref rw, .ref pl, .ref hd, .ref ha, .ref lo, .ref ol, .ref as_]))]) := hD
  refine lv_bipush (v := nI 10) hx hb dX3_make_10 (by decide) ?_
  refine lv_aload_n hx hb dX3_make_12 rfl (lv_at hl 0 rfl) ?_
  refine va_get (D := D) (ci := 3) (v := .int (nI (md + 1))) (C := RX3) (T := TX3) (N := 11) hx hb hts hi_X3_make_3 hown hK.1 hP 0 rfl rfl 2 (by decide) (hts _ hf_X3_make_44) (fun _ h9 => h9) rfl dX3_make_13 ?_
  refine lv_iconst (v := nI 1) hx hb dX3_make_16 (by decide) ?_
  refine pw_isub hx hb (by omega) dX3_make_17 ?_
  refine pw_imul hx hb dX3_make_18 ?_
  refine lv_iload_n hx hb dX3_make_19 rfl (lv_at hl 1 rfl) ?_
  refine pw_iadd hx hb dX3_make_20 ?_
  exact pw_iret hx hb hr (rfl) hlocks dX3_make_21 hS hP hD (⟨by rw [show (10 * ((md + 1) - 1)) + nm = (md * 10) + nm by omega], rfl⟩)
theorem hi_X3_thing_3 : ∀ w ∈ u_ws RX3 TX3 11, w ∈ wsX3_thing := by decide +kernel
theorem hf_X3_thing_7 : Cond.fieldLink RX3 7 "PegrowModel" "things" "[I" ∈ wsX3_thing := by decide +kernel
set_option maxHeartbeats 4000000 in
set_option maxRecDepth 100000 in
theorem m_thing (l : Launch) (D : va_G) (cI cP cR : ClassId) (x t z rf rw pl hd ha lo ol as_ md : Nat) (T : Nat → Nat → Int32) (i k : Nat) (hi : i < 3) (hk : k < 64) : pw_Mp l yX3_thing wsX3_thing ({ frames := 0, cells := 0, slots := 0, locals := 0 } : Room) D cI cP cR [.ref x, .int (nI i), .int (nI k)] ([(x, .inr (3, [.ref t, .ref z, .int (nI md), .ref rf, .ref rw, .ref pl, .ref hd, .ref ha, .ref lo, .ref ol, .ref as_])), (t, .inl (cI, 192, .inl (flT T)))]) (.int (T i k)) := by
  refine pw_ofp (cc := cX3_thing) (maxL := 3) (ret := (some .int)) (own := RX3) (by decide +kernel) rfl rfl (Nat.le_of_ble_eq_true rfl) ?_
  intro p_ e_ s m bel meth cd hE hK hP hD ls hl
  obtain ⟨hx, hb, hr, hml, hown, hts, hlocks⟩ := hE
  have hNW := hK.2
  have hl : lv_has ls 3 [(0, .ref x), (1, .int (nI i)), (2, .int (nI k))] := hl
  refine lv_aload_n hx hb dX3_thing_0 rfl (lv_at hl 0 rfl) ?_
  refine va_get (D := D) (ci := 3) (v := .ref t) (C := RX3) (T := TX3) (N := 11) hx hb hts hi_X3_thing_3 hown hK.1 hP 0 rfl rfl 0 (by decide) (hts _ hf_X3_thing_7) (fun _ h9 => h9) rfl dX3_thing_1 ?_
  refine lv_bipush (v := nI 64) hx hb dX3_thing_4 (by decide) ?_
  refine lv_iload_n hx hb dX3_thing_6 rfl (lv_at hl 1 rfl) ?_
  refine pw_imul hx hb dX3_thing_7 ?_
  refine lv_iload_n hx hb dX3_thing_8 rfl (lv_at hl 2 rfl) ?_
  refine pw_iadd hx hb dX3_thing_9 ?_
  refine pw_iald hx hb hK.1 hP 1 0 rfl rfl (by decide) (by omega) dX3_thing_10 ?_
  exact pw_piret hx hb hr (rfl) hlocks dX3_thing_11 (congrArg Value.int (flT_at _ _ _ (by omega)).symm)
theorem hi_X3_age_3 : ∀ w ∈ u_ws RX3 TX3 11, w ∈ wsX3_age := by decide +kernel
theorem hf_X3_age_19 : Cond.fieldLink RX3 19 "PegrowModel" "rowOf" "[I" ∈ wsX3_age := by decide +kernel
theorem hf_X3_age_34 : Cond.fieldLink RX3 34 "PegrowModel" "isOld" "[I" ∈ wsX3_age := by decide +kernel
set_option maxHeartbeats 4000000 in
set_option maxRecDepth 100000 in
theorem m_age (l : Launch) (D : va_G) (cI cP cR : ClassId) (x t z rf rw pl hd ha lo ol as_ md : Nat) (R Ol : Nat → Int32) (i : Nat) (bt : Int32) : pw_Mm l yX3_age wsX3_age ({ frames := 0, cells := 0, slots := 0, locals := 0 } : Room) D cI cP cR [.ref x, .int (nI i), .int (bt)] ([(x, .inr (3, [.ref t, .ref z, .int (nI md), .ref rf, .ref rw, .ref pl, .ref hd, .ref ha, .ref lo, .ref ol, .ref as_])), (rw, .inl (cI, 4, .inl (R))), (ol, .inl (cI, 4, .inl (Ol)))]) (fun v w => v = none ∧ w = [(x, .inr (3, [.ref t, .ref z, .int (nI md), .ref rf, .ref rw, .ref pl, .ref hd, .ref ha, .ref lo, .ref ol, .ref as_])), (rw, .inl (cI, 4, .inl (R))), (ol, .inl (cI, 4, .inl (agF R Ol (nI i) bt)))]) := by
  refine pw_ofm (cc := cX3_age) (maxL := 4) (ret := none) (own := RX3) (by decide +kernel) rfl rfl (Nat.le_of_ble_eq_true rfl) ?_
  intro p_ e_ s m bel meth cd A hE hK hP hD hA hS ls hl
  obtain ⟨hx, hb, hr, hml, hown, hts, hlocks⟩ := hE
  have hNW := hK.2
  have hl : lv_has ls 4 [(0, .ref x), (1, .int (nI i)), (2, .int (bt))] := hl
  refine lv_iconst (v := nI 0) hx hb dX3_age_0 (by decide) ?_
  refine lv_istore_n (lv' := [(3, .int (nI 0)), (0, .ref x), (1, .int (nI i)), (2, .int (bt))]) hx hb dX3_age_1 rfl hl (by decide) rfl (fun ls hl => ?_)
  have loop : ∀ (r : Nat), ∀ (k : Nat), k + r = 4 → ∀ (H : Heap) (locs : List Loc), va_P D vwCl ([(x, .inr (3, [.ref t, .ref z, .int (nI md), .ref rf, .ref rw, .ref pl, .ref hd, .ref ha, .ref lo, .ref ol, .ref as_])), (rw, .inl (cI, 4, .inl (R))), (ol, .inl (cI, 4, .inl (agK R Ol (nI i) bt k)))]) H → va_D A ([(x, .inr (3, [.ref t, .ref z, .int (nI md), .ref rf, .ref rw, .ref pl, .ref hd, .ref ha, .ref lo, .ref ol, .ref as_])), (rw, .inl (cI, 4, .inl (R))), (ol, .inl (cI, 4, .inl (agK R Ol (nI i) bt k)))]) → va_S A s.heap H locs → ∀ ls : Array Slot, lv_has ls 4 [(3, .int (nI k)), (0, .ref x), (1, .int (nI i)), (2, .int (bt))] → W p_ l e_ ({ frames := 0, cells := 0, slots := 0, locals := 0 } : Room) s m [.ref x, .int (nI i), .int (bt)].toArray bel meth cd H locs 0 0 (MQ bel (pw_Qm (fun v w => v = none ∧ w = [(x, .inr (3, [.ref t, .ref z, .int (nI md), .ref rf, .ref rw, .ref pl, .ref hd, .ref ha, .ref lo, .ref ol, .ref as_])), (rw, .inl (cI, 4, .inl (R))), (ol, .inl (cI, 4, .inl (agF R Ol (nI i) bt)))]) D A) [.ref x, .int (nI i), .int (bt)].toArray s 0 0 A) (F0 m 2 ls []) := by
    intro r
    induction r with
    | zero =>
      intro k hr1 H locs hP hD hS ls hl
      obtain rfl : k = 4 := by omega
      refine lv_iload_n hx hb dX3_age_2 rfl (lv_at hl 0 rfl) ?_
      refine lv_iconst (v := nI 4) hx hb dX3_age_3 (by decide) ?_
      refine lv_icmp_ge (tgt := 44) hx hb dX3_age_4 (by decide) (fun c => ?_) (fun c => absurd c (by decide))
      exact pw_vret hx hb hr hlocks dX3_age_44 hS hP hD (⟨rfl, rfl⟩)
    | succ r ih =>
      intro k hr1 H locs hP hD hS ls hl
      have hk4 : k < 4 := by omega
      refine lv_iload_n hx hb dX3_age_2 rfl (lv_at hl 0 rfl) ?_
      refine lv_iconst (v := nI 4) hx hb dX3_age_3 (by decide) ?_
      refine pw_icmp_ge (tgt := 44) hx hb (by omega) (by omega) dX3_age_4 (by decide) (fun c_1 => ?_) (fun c_1 => ?_)
      · exact absurd c_1 (by omega)
      · have _h := c_1
        refine lv_aload_n hx hb dX3_age_7 rfl (lv_at hl 1 rfl) ?_
        refine va_get (D := D) (ci := 3) (v := .ref ol) (C := RX3) (T := TX3) (N := 11) hx hb hts hi_X3_age_3 hown hK.1 hP 0 rfl rfl 9 (by decide) (hts _ hf_X3_age_34) (fun _ h9 => h9) rfl dX3_age_8 ?_
        refine lv_iload_n hx hb dX3_age_11 rfl (lv_at hl 0 rfl) ?_
        refine lv_aload_n hx hb dX3_age_12 rfl (lv_at hl 1 rfl) ?_
        refine va_get (D := D) (ci := 3) (v := .ref rw) (C := RX3) (T := TX3) (N := 11) hx hb hts hi_X3_age_3 hown hK.1 hP 0 rfl rfl 4 (by decide) (hts _ hf_X3_age_19) (fun _ h9 => h9) rfl dX3_age_13 ?_
        refine lv_iload_n hx hb dX3_age_16 rfl (lv_at hl 0 rfl) ?_
        refine pw_iald hx hb hK.1 hP 1 0 rfl rfl (by decide) (by omega) dX3_age_17 ?_
        refine lv_iload_n hx hb dX3_age_18 rfl (lv_at hl 2 rfl) ?_
        refine lv_icmp_ne (tgt := 31) hx hb dX3_age_19 (by decide) (fun c_2 => ?_) (fun c_2 => ?_)
        · have _h := c_2
          refine lv_aload_n hx hb dX3_age_31 rfl (lv_at hl 1 rfl) ?_
          refine va_get (D := D) (ci := 3) (v := .ref ol) (C := RX3) (T := TX3) (N := 11) hx hb hts hi_X3_age_3 hown hK.1 hP 0 rfl rfl 9 (by decide) (hts _ hf_X3_age_34) (fun _ h9 => h9) rfl dX3_age_32 ?_
          refine lv_iload_n hx hb dX3_age_35 rfl (lv_at hl 0 rfl) ?_
          refine pw_iald hx hb hK.1 hP 2 0 rfl rfl (by decide) (by omega) dX3_age_36 ?_
          refine pw_iast hx hb hK.1 hP hD hS 2 0 rfl rfl (by decide) (by omega) dX3_age_37 (fun H locs hP hD hS => ?_)
          have hP : va_P D vwCl ([(x, .inr (3, [.ref t, .ref z, .int (nI md), .ref rf, .ref rw, .ref pl, .ref hd, .ref ha, .ref lo, .ref ol, .ref as_])), (rw, .inl (cI, 4, .inl (R))), (ol, .inl (cI, 4, .inl (upd (agK R Ol (nI i) bt k) k ((agK R Ol (nI i) bt k) k))))]) H := hP
          have hD : va_D A ([(x, .inr (3, [.ref t, .ref z, .int (nI md), .ref rf, .ref rw, .ref pl, .ref hd, .ref ha, .ref lo, .ref ol, .ref as_])), (rw, .inl (cI, 4, .inl (R))), (ol, .inl (cI, 4, .inl (upd (agK R Ol (nI i) bt k) k ((agK R Ol (nI i) bt k) k))))]) := hD
          refine lv_iinc (v := nI (k + 1)) (lv' := [(3, .int (nI (k + 1))), (0, .ref x), (1, .int (nI i)), (2, .int (bt))]) hx hb dX3_age_38 hl (k := 0) rfl (pw_inc _ 1) (by decide) rfl (fun ls hl => ?_)
          refine lv_goto (tgt := 2) hx hb dX3_age_41 (by decide) ?_
          rw [agK_f R Ol (nI i) bt k (fun h => c_2 h.1)] at hP hD
          exact ih (k + 1) (by omega) H locs hP hD hS ls hl
        · have _h := c_2
          refine lv_iload_n hx hb dX3_age_22 rfl (lv_at hl 0 rfl) ?_
          refine lv_iload_n hx hb dX3_age_23 rfl (lv_at hl 3 rfl) ?_
          refine lv_icmp_eq (tgt := 31) hx hb dX3_age_24 (by decide) (fun c_3 => ?_) (fun c_3 => ?_)
          · have _h := c_3
            refine lv_aload_n hx hb dX3_age_31 rfl (lv_at hl 1 rfl) ?_
            refine va_get (D := D) (ci := 3) (v := .ref ol) (C := RX3) (T := TX3) (N := 11) hx hb hts hi_X3_age_3 hown hK.1 hP 0 rfl rfl 9 (by decide) (hts _ hf_X3_age_34) (fun _ h9 => h9) rfl dX3_age_32 ?_
            refine lv_iload_n hx hb dX3_age_35 rfl (lv_at hl 0 rfl) ?_
            refine pw_iald hx hb hK.1 hP 2 0 rfl rfl (by decide) (by omega) dX3_age_36 ?_
            refine pw_iast hx hb hK.1 hP hD hS 2 0 rfl rfl (by decide) (by omega) dX3_age_37 (fun H locs hP hD hS => ?_)
            have hP : va_P D vwCl ([(x, .inr (3, [.ref t, .ref z, .int (nI md), .ref rf, .ref rw, .ref pl, .ref hd, .ref ha, .ref lo, .ref ol, .ref as_])), (rw, .inl (cI, 4, .inl (R))), (ol, .inl (cI, 4, .inl (upd (agK R Ol (nI i) bt k) k ((agK R Ol (nI i) bt k) k))))]) H := hP
            have hD : va_D A ([(x, .inr (3, [.ref t, .ref z, .int (nI md), .ref rf, .ref rw, .ref pl, .ref hd, .ref ha, .ref lo, .ref ol, .ref as_])), (rw, .inl (cI, 4, .inl (R))), (ol, .inl (cI, 4, .inl (upd (agK R Ol (nI i) bt k) k ((agK R Ol (nI i) bt k) k))))]) := hD
            refine lv_iinc (v := nI (k + 1)) (lv' := [(3, .int (nI (k + 1))), (0, .ref x), (1, .int (nI i)), (2, .int (bt))]) hx hb dX3_age_38 hl (k := 0) rfl (pw_inc _ 1) (by decide) rfl (fun ls hl => ?_)
            refine lv_goto (tgt := 2) hx hb dX3_age_41 (by decide) ?_
            rw [agK_f R Ol (nI i) bt k (fun h => h.2 c_3)] at hP hD
            exact ih (k + 1) (by omega) H locs hP hD hS ls hl
          · have _h := c_3
            refine lv_iconst (v := nI 1) hx hb dX3_age_27 (by decide) ?_
            refine lv_goto (tgt := 37) hx hb dX3_age_28 (by decide) ?_
            refine pw_iast hx hb hK.1 hP hD hS 2 0 rfl rfl (by decide) (by omega) dX3_age_37 (fun H locs hP hD hS => ?_)
            have hP : va_P D vwCl ([(x, .inr (3, [.ref t, .ref z, .int (nI md), .ref rf, .ref rw, .ref pl, .ref hd, .ref ha, .ref lo, .ref ol, .ref as_])), (rw, .inl (cI, 4, .inl (R))), (ol, .inl (cI, 4, .inl (upd (agK R Ol (nI i) bt k) k (nI 1))))]) H := hP
            have hD : va_D A ([(x, .inr (3, [.ref t, .ref z, .int (nI md), .ref rf, .ref rw, .ref pl, .ref hd, .ref ha, .ref lo, .ref ol, .ref as_])), (rw, .inl (cI, 4, .inl (R))), (ol, .inl (cI, 4, .inl (upd (agK R Ol (nI i) bt k) k (nI 1))))]) := hD
            refine lv_iinc (v := nI (k + 1)) (lv' := [(3, .int (nI (k + 1))), (0, .ref x), (1, .int (nI i)), (2, .int (bt))]) hx hb dX3_age_38 hl (k := 0) rfl (pw_inc _ 1) (by decide) rfl (fun ls hl => ?_)
            refine lv_goto (tgt := 2) hx hb dX3_age_41 (by decide) ?_
            rw [agK_t R Ol (nI i) bt k c_2 c_3] at hP hD
            exact ih (k + 1) (by omega) H locs hP hD hS ls hl
  exact loop 4 0 (by omega) s.heap [] (by rw [agK_0]; exact hP) (by rw [agK_0]; exact hD) hS ls hl
theorem hi_X3_open_3 : ∀ w ∈ u_ws RX3 TX3 11, w ∈ wsX3_open := by decide +kernel
theorem hf_X3_open_7 : Cond.fieldLink RX3 7 "PegrowModel" "things" "[I" ∈ wsX3_open := by decide +kernel
theorem hf_X3_open_13 : Cond.fieldLink RX3 13 "PegrowModel" "sizes" "[I" ∈ wsX3_open := by decide +kernel
set_option maxHeartbeats 4000000 in
set_option maxRecDepth 100000 in
theorem m_open (l : Launch) (D : va_G) (cI cP cR : ClassId) (x t z rf rw pl hd ha lo ol as_ md : Nat) (T : Nat → Nat → Int32) (Z : Nat → Nat) (i k : Nat) (y : Int32) (hi : i < 3) (hk : k ≤ Z i) (hz : Z i < 60) : pw_Mm l yX3_open wsX3_open ({ frames := 1, cells := 0, slots := 0, locals := 22 } : Room) D cI cP cR [.ref x, .int (nI i), .int (nI k), .int (y)] ([(x, .inr (3, [.ref t, .ref z, .int (nI md), .ref rf, .ref rw, .ref pl, .ref hd, .ref ha, .ref lo, .ref ol, .ref as_])), (t, .inl (cI, 192, .inl (flT T))), (z, .inl (cI, 3, .inl (zI Z)))]) (fun v w => v = none ∧ w = [(x, .inr (3, [.ref t, .ref z, .int (nI md), .ref rf, .ref rw, .ref pl, .ref hd, .ref ha, .ref lo, .ref ol, .ref as_])), (t, .inl (cI, 192, .inl (flT (upR T i (upd (opn (T i) k 1 (Z i)) k y))))), (z, .inl (cI, 3, .inl (zI (updN Z i (Z i + 1)))))]) := by
  refine pw_ofm (cc := cX3_open) (maxL := 5) (ret := none) (own := RX3) (by decide +kernel) rfl rfl (Nat.le_of_ble_eq_true rfl) ?_
  intro p_ e_ s m bel meth cd A hE hK hP hD hA hS ls hl
  obtain ⟨hx, hb, hr, hml, hown, hts, hlocks⟩ := hE
  have hNW := hK.2
  have hl : lv_has ls 5 [(0, .ref x), (1, .int (nI i)), (2, .int (nI k)), (3, .int (y))] := hl
  refine lv_aload_n hx hb dX3_open_0 rfl (lv_at hl 0 rfl) ?_
  refine va_get (D := D) (ci := 3) (v := .ref z) (C := RX3) (T := TX3) (N := 11) hx hb hts hi_X3_open_3 hown hK.1 hP 0 rfl rfl 1 (by decide) (hts _ hf_X3_open_13) (fun _ h9 => h9) rfl dX3_open_1 ?_
  refine lv_iload_n hx hb dX3_open_4 rfl (lv_at hl 1 rfl) ?_
  refine pw_iald hx hb hK.1 hP 2 0 rfl rfl (by decide) (by omega) dX3_open_5 ?_
  refine pw_top (y := nI (Z i)) rfl ?_
  refine lv_istore (lv' := [(4, .int (nI (Z i))), (0, .ref x), (1, .int (nI i)), (2, .int (nI k)), (3, .int (y))]) hx hb dX3_open_6 hl (by decide) rfl (fun ls hl => ?_)
  have loop : ∀ (r : Nat), k + r ≤ Z i → ∀ (x4 : Int32), x4 = nI (k + r) → ∀ (H : Heap) (locs : List Loc), va_P D vwCl ([(x, .inr (3, [.ref t, .ref z, .int (nI md), .ref rf, .ref rw, .ref pl, .ref hd, .ref ha, .ref lo, .ref ol, .ref as_])), (t, .inl (cI, 192, .inl (flT (upR T i (opn (T i) (k + r) 1 (Z i)))))), (z, .inl (cI, 3, .inl (zI Z)))]) H → va_D A ([(x, .inr (3, [.ref t, .ref z, .int (nI md), .ref rf, .ref rw, .ref pl, .ref hd, .ref ha, .ref lo, .ref ol, .ref as_])), (t, .inl (cI, 192, .inl (flT (upR T i (opn (T i) (k + r) 1 (Z i)))))), (z, .inl (cI, 3, .inl (zI Z)))]) → va_S A s.heap H locs → ∀ ls : Array Slot, lv_has ls 5 [(4, .int (x4)), (0, .ref x), (1, .int (nI i)), (2, .int (nI k)), (3, .int (y))] → W p_ l e_ ({ frames := 1, cells := 0, slots := 0, locals := 22 } : Room) s m [.ref x, .int (nI i), .int (nI k), .int (y)].toArray bel meth cd H locs 0 0 (MQ bel (pw_Qm (fun v w => v = none ∧ w = [(x, .inr (3, [.ref t, .ref z, .int (nI md), .ref rf, .ref rw, .ref pl, .ref hd, .ref ha, .ref lo, .ref ol, .ref as_])), (t, .inl (cI, 192, .inl (flT (upR T i (upd (opn (T i) k 1 (Z i)) k y))))), (z, .inl (cI, 3, .inl (zI (updN Z i (Z i + 1)))))]) D A) [.ref x, .int (nI i), .int (nI k), .int (y)].toArray s 0 0 A) (F0 m 8 ls []) := by
    intro r
    induction r with
    | zero =>
      intro hr1 x4 ex4 H locs hP hD hS ls hl
      subst ex4
      refine lv_iload hx hb dX3_open_8 (lv_at hl 0 rfl) ?_
      refine lv_iload_n hx hb dX3_open_10 rfl (lv_at hl 3 rfl) ?_
      refine pw_icmp_le (tgt := 41) hx hb (by omega) (by omega) dX3_open_11 (by decide) (fun c_1 => ?_) (fun c_1 => ?_)
      · have _h := c_1
        refine lv_aload_n hx hb dX3_open_41 rfl (lv_at hl 1 rfl) ?_
        refine va_get (D := D) (ci := 3) (v := .ref t) (C := RX3) (T := TX3) (N := 11) hx hb hts hi_X3_open_3 hown hK.1 hP 0 rfl rfl 0 (by decide) (hts _ hf_X3_open_7) (fun _ h9 => h9) rfl dX3_open_42 ?_
        refine lv_bipush (v := nI 64) hx hb dX3_open_45 (by decide) ?_
        refine lv_iload_n hx hb dX3_open_47 rfl (lv_at hl 2 rfl) ?_
        refine pw_imul hx hb dX3_open_48 ?_
        refine lv_iload_n hx hb dX3_open_49 rfl (lv_at hl 3 rfl) ?_
        refine pw_iadd hx hb dX3_open_50 ?_
        refine lv_iload_n hx hb dX3_open_51 rfl (lv_at hl 4 rfl) ?_
        refine pw_iast hx hb hK.1 hP hD hS 1 0 rfl rfl (by decide) (by omega) dX3_open_52 (fun H locs hP hD hS => ?_)
        have hP : va_P D vwCl ([(x, .inr (3, [.ref t, .ref z, .int (nI md), .ref rf, .ref rw, .ref pl, .ref hd, .ref ha, .ref lo, .ref ol, .ref as_])), (t, .inl (cI, 192, .inl (upd (flT (upR T i (opn (T i) (k + 0) 1 (Z i)))) ((64 * i) + k) y))), (z, .inl (cI, 3, .inl (zI Z)))]) H := hP
        have hD : va_D A ([(x, .inr (3, [.ref t, .ref z, .int (nI md), .ref rf, .ref rw, .ref pl, .ref hd, .ref ha, .ref lo, .ref ol, .ref as_])), (t, .inl (cI, 192, .inl (upd (flT (upR T i (opn (T i) (k + 0) 1 (Z i)))) ((64 * i) + k) y))), (z, .inl (cI, 3, .inl (zI Z)))]) := hD
        rw [flT_upd2 _ _ _ _ _ (by omega)] at hP hD
        refine lv_aload_n hx hb dX3_open_53 rfl (lv_at hl 1 rfl) ?_
        refine va_get (D := D) (ci := 3) (v := .ref z) (C := RX3) (T := TX3) (N := 11) hx hb hts hi_X3_open_3 hown hK.1 hP 0 rfl rfl 1 (by decide) (hts _ hf_X3_open_13) (fun _ h9 => h9) rfl dX3_open_54 ?_
        refine lv_iload_n hx hb dX3_open_57 rfl (lv_at hl 2 rfl) ?_
        refine lv_dup2_11 hx hb dX3_open_58 rfl rfl ?_
        refine pw_iald hx hb hK.1 hP 2 0 rfl rfl (by decide) (by omega) dX3_open_59 ?_
        refine pw_top (y := nI (Z i)) rfl ?_
        refine lv_iconst (v := nI 1) hx hb dX3_open_60 (by decide) ?_
        refine pw_iadd hx hb dX3_open_61 ?_
        refine pw_iast hx hb hK.1 hP hD hS 2 0 rfl rfl (by decide) (by omega) dX3_open_62 (fun H locs hP hD hS => ?_)
        have hP : va_P D vwCl ([(x, .inr (3, [.ref t, .ref z, .int (nI md), .ref rf, .ref rw, .ref pl, .ref hd, .ref ha, .ref lo, .ref ol, .ref as_])), (t, .inl (cI, 192, .inl (flT (upR T i (upd (opn (T i) (k + 0) 1 (Z i)) k y))))), (z, .inl (cI, 3, .inl (upd (zI Z) i (nI ((Z i) + 1)))))]) H := hP
        have hD : va_D A ([(x, .inr (3, [.ref t, .ref z, .int (nI md), .ref rf, .ref rw, .ref pl, .ref hd, .ref ha, .ref lo, .ref ol, .ref as_])), (t, .inl (cI, 192, .inl (flT (upR T i (upd (opn (T i) (k + 0) 1 (Z i)) k y))))), (z, .inl (cI, 3, .inl (upd (zI Z) i (nI ((Z i) + 1)))))]) := hD
        rw [zI_upd] at hP hD
        exact pw_vret hx hb hr hlocks dX3_open_63 hS hP hD (⟨rfl, rfl⟩)
      · exact absurd c_1 (by omega)
    | succ r ih =>
      intro hr1 x4 ex4 H locs hP hD hS ls hl
      subst ex4
      refine lv_iload hx hb dX3_open_8 (lv_at hl 0 rfl) ?_
      refine lv_iload_n hx hb dX3_open_10 rfl (lv_at hl 3 rfl) ?_
      refine pw_icmp_le (tgt := 41) hx hb (by omega) (by omega) dX3_open_11 (by decide) (fun c_2 => ?_) (fun c_2 => ?_)
      · exact absurd c_2 (by omega)
      · have _h := c_2
        refine lv_aload_n hx hb dX3_open_14 rfl (lv_at hl 1 rfl) ?_
        refine va_get (D := D) (ci := 3) (v := .ref t) (C := RX3) (T := TX3) (N := 11) hx hb hts hi_X3_open_3 hown hK.1 hP 0 rfl rfl 0 (by decide) (hts _ hf_X3_open_7) (fun _ h9 => h9) rfl dX3_open_15 ?_
        refine lv_bipush (v := nI 64) hx hb dX3_open_18 (by decide) ?_
        refine lv_iload_n hx hb dX3_open_20 rfl (lv_at hl 2 rfl) ?_
        refine pw_imul hx hb dX3_open_21 ?_
        refine lv_iload hx hb dX3_open_22 (lv_at hl 0 rfl) ?_
        refine pw_iadd hx hb dX3_open_24 ?_
        refine lv_aload_n hx hb dX3_open_25 rfl (lv_at hl 1 rfl) ?_
        refine lv_iload_n hx hb dX3_open_26 rfl (lv_at hl 2 rfl) ?_
        refine lv_iload hx hb dX3_open_27 (lv_at hl 0 rfl) ?_
        refine lv_iconst (v := nI 1) hx hb dX3_open_29 (by decide) ?_
        refine pw_isub hx hb (by omega) dX3_open_30 ?_
        -- m_thing
        refine pw_cVp (As := [.int (nI i), .int (nI ((k + (r + 1)) - 1))]) (rest := [.int (nI ((64 * i) + (k + (r + 1)))), .ref t]) (wc := [(x, .inr (3, [.ref t, .ref z, .int (nI md), .ref rf, .ref rw, .ref pl, .ref hd, .ref ha, .ref lo, .ref ol, .ref as_])), (t, .inl (cI, 192, .inl (flT (upR T i (opn (T i) (k + (r + 1)) 1 (Z i))))))]) ⟨hx, hb, hml, hown, hts⟩ (m_thing l D cI cP cR x t z rf rw pl hd ha lo ol as_ md (upR T i (opn (T i) (k + (r + 1)) 1 (Z i))) i ((k + (r + 1)) - 1) (by omega) (by omega)) (cwV 2 hts gX3_open_X3_thing rfl rfl rfl (by decide +kernel) ⟨Nat.le_of_ble_eq_true rfl, Nat.le_of_ble_eq_true rfl⟩) hK hP hD [0, 1] rfl (by decide) 0 rfl rfl rfl rfl hl.1 rfl (Nat.le_of_ble_eq_true rfl) dX3_open_31 ⟨Nat.zero_le _, Nat.zero_le _⟩ ?_
        refine pw_top (y := (opn (T i) (k + (r + 1)) 1 (Z i)) ((k + (r + 1)) - 1)) (congrFun (upR_s _ _ _) _) ?_
        refine pw_iast hx hb hK.1 hP hD hS 1 0 rfl rfl (by decide) (by omega) dX3_open_34 (fun H locs hP hD hS => ?_)
        have hP : va_P D vwCl ([(x, .inr (3, [.ref t, .ref z, .int (nI md), .ref rf, .ref rw, .ref pl, .ref hd, .ref ha, .ref lo, .ref ol, .ref as_])), (t, .inl (cI, 192, .inl (upd (flT (upR T i (opn (T i) (k + (r + 1)) 1 (Z i)))) ((64 * i) + (k + (r + 1))) ((opn (T i) (k + (r + 1)) 1 (Z i)) ((k + (r + 1)) - 1))))), (z, .inl (cI, 3, .inl (zI Z)))]) H := hP
        have hD : va_D A ([(x, .inr (3, [.ref t, .ref z, .int (nI md), .ref rf, .ref rw, .ref pl, .ref hd, .ref ha, .ref lo, .ref ol, .ref as_])), (t, .inl (cI, 192, .inl (upd (flT (upR T i (opn (T i) (k + (r + 1)) 1 (Z i)))) ((64 * i) + (k + (r + 1))) ((opn (T i) (k + (r + 1)) 1 (Z i)) ((k + (r + 1)) - 1))))), (z, .inl (cI, 3, .inl (zI Z)))]) := hD
        rw [flT_upd2 _ _ _ _ _ (by omega)] at hP hD
        refine lv_iinc (v := nI (k + (r + 1)) + Int32.ofInt (-1)) (lv' := [(4, .int (nI (k + (r + 1)) + Int32.ofInt (-1))), (0, .ref x), (1, .int (nI i)), (2, .int (nI k)), (3, .int (y))]) hx hb dX3_open_35 hl (k := 0) rfl (rfl) (by decide) rfl (fun ls hl => ?_)
        refine lv_goto (tgt := 8) hx hb dX3_open_38 (by decide) ?_
        have eo := opn_s (T i) k r 1 (Z i) (by omega) (Or.inr trivial)
        rw [show k + (r + 1) - 1 = k + r by omega] at hP hD
        have hP := hP
        simp only [← Nat.add_assoc] at hP hD eo
        rw [eo] at hP hD
        exact ih (by omega) _ rfl H locs hP hD hS ls (by rw [pw_dec, show nI (k + (r + 1)) - 1 = nI (k + r) from by rw [← Nat.add_assoc, nI_pred]] at hl; exact hl)
  have e0 : upR T i (opn (T i) (k + (Z i - k)) 1 (Z i)) = T := by rw [opn_e _ _ _ _ (by omega), upR_i]
  exact loop (Z i - k) (by omega) _ (by rw [show k + (Z i - k) = Z i by omega]) s.heap [] (by rw [e0]; exact hP) (by rw [e0]; exact hD) hS ls hl
theorem hi_X3_close_3 : ∀ w ∈ u_ws RX3 TX3 11, w ∈ wsX3_close := by decide +kernel
theorem hf_X3_close_7 : Cond.fieldLink RX3 7 "PegrowModel" "things" "[I" ∈ wsX3_close := by decide +kernel
theorem hf_X3_close_13 : Cond.fieldLink RX3 13 "PegrowModel" "sizes" "[I" ∈ wsX3_close := by decide +kernel
set_option maxHeartbeats 4000000 in
set_option maxRecDepth 100000 in
theorem m_close (l : Launch) (D : va_G) (cI cP cR : ClassId) (x t z rf rw pl hd ha lo ol as_ md : Nat) (T : Nat → Nat → Int32) (Z : Nat → Nat) (i k : Nat) (hi : i < 3) (hk : k < Z i) (hz : Z i ≤ 60) : pw_Mm l yX3_close wsX3_close ({ frames := 1, cells := 0, slots := 0, locals := 22 } : Room) D cI cP cR [.ref x, .int (nI i), .int (nI k)] ([(x, .inr (3, [.ref t, .ref z, .int (nI md), .ref rf, .ref rw, .ref pl, .ref hd, .ref ha, .ref lo, .ref ol, .ref as_])), (t, .inl (cI, 192, .inl (flT T))), (z, .inl (cI, 3, .inl (zI Z)))]) (fun v w => v = some (.int (T i k)) ∧ w = [(x, .inr (3, [.ref t, .ref z, .int (nI md), .ref rf, .ref rw, .ref pl, .ref hd, .ref ha, .ref lo, .ref ol, .ref as_])), (t, .inl (cI, 192, .inl (flT (upR T i (clsF (T i) k (Z i)))))), (z, .inl (cI, 3, .inl (zI (updN Z i (Z i - 1)))))]) := by
  refine pw_ofm (cc := cX3_close) (maxL := 5) (ret := (some .int)) (own := RX3) (by decide +kernel) rfl rfl (Nat.le_of_ble_eq_true rfl) ?_
  intro p_ e_ s m bel meth cd A hE hK hP hD hA hS ls hl
  obtain ⟨hx, hb, hr, hml, hown, hts, hlocks⟩ := hE
  have hNW := hK.2
  have hl : lv_has ls 5 [(0, .ref x), (1, .int (nI i)), (2, .int (nI k))] := hl
  refine lv_aload_n hx hb dX3_close_0 rfl (lv_at hl 0 rfl) ?_
  refine lv_iload_n hx hb dX3_close_1 rfl (lv_at hl 1 rfl) ?_
  refine lv_iload_n hx hb dX3_close_2 rfl (lv_at hl 2 rfl) ?_
  -- m_thing
  refine pw_cVp (As := [.int (nI i), .int (nI k)]) (rest := []) (wc := [(x, .inr (3, [.ref t, .ref z, .int (nI md), .ref rf, .ref rw, .ref pl, .ref hd, .ref ha, .ref lo, .ref ol, .ref as_])), (t, .inl (cI, 192, .inl (flT T)))]) ⟨hx, hb, hml, hown, hts⟩ (m_thing l D cI cP cR x t z rf rw pl hd ha lo ol as_ md T i k (by omega) (by omega)) (cwV 2 hts gX3_close_X3_thing rfl rfl rfl (by decide +kernel) ⟨Nat.le_of_ble_eq_true rfl, Nat.le_of_ble_eq_true rfl⟩) hK hP hD [0, 1] rfl (by decide) 0 rfl rfl rfl rfl hl.1 rfl (Nat.le_of_ble_eq_true rfl) dX3_close_3 ⟨Nat.zero_le _, Nat.zero_le _⟩ ?_
  refine lv_istore_n (lv' := [(3, .int (T i k)), (0, .ref x), (1, .int (nI i)), (2, .int (nI k))]) hx hb dX3_close_6 rfl hl (by decide) rfl (fun ls hl => ?_)
  refine lv_aload_n hx hb dX3_close_7 rfl (lv_at hl 1 rfl) ?_
  refine va_get (D := D) (ci := 3) (v := .ref z) (C := RX3) (T := TX3) (N := 11) hx hb hts hi_X3_close_3 hown hK.1 hP 0 rfl rfl 1 (by decide) (hts _ hf_X3_close_13) (fun _ h9 => h9) rfl dX3_close_8 ?_
  refine lv_iload_n hx hb dX3_close_11 rfl (lv_at hl 2 rfl) ?_
  refine lv_dup2_11 hx hb dX3_close_12 rfl rfl ?_
  refine pw_iald hx hb hK.1 hP 2 0 rfl rfl (by decide) (by omega) dX3_close_13 ?_
  refine pw_top (y := nI (Z i)) rfl ?_
  refine lv_iconst (v := nI 1) hx hb dX3_close_14 (by decide) ?_
  refine pw_isub hx hb (by omega) dX3_close_15 ?_
  refine pw_iast hx hb hK.1 hP hD hS 2 0 rfl rfl (by decide) (by omega) dX3_close_16 (fun H locs hP hD hS => ?_)
  have hP : va_P D vwCl ([(x, .inr (3, [.ref t, .ref z, .int (nI md), .ref rf, .ref rw, .ref pl, .ref hd, .ref ha, .ref lo, .ref ol, .ref as_])), (t, .inl (cI, 192, .inl (flT T))), (z, .inl (cI, 3, .inl (upd (zI Z) i (nI ((Z i) - 1)))))]) H := hP
  have hD : va_D A ([(x, .inr (3, [.ref t, .ref z, .int (nI md), .ref rf, .ref rw, .ref pl, .ref hd, .ref ha, .ref lo, .ref ol, .ref as_])), (t, .inl (cI, 192, .inl (flT T))), (z, .inl (cI, 3, .inl (upd (zI Z) i (nI ((Z i) - 1)))))]) := hD
  rw [zI_upd] at hP hD
  refine lv_iload_n hx hb dX3_close_17 rfl (lv_at hl 3 rfl) ?_
  refine lv_istore (lv' := [(4, .int (nI k)), (3, .int (T i k)), (0, .ref x), (1, .int (nI i)), (2, .int (nI k))]) hx hb dX3_close_18 hl (by decide) rfl (fun ls hl => ?_)
  have loop : ∀ (r : Nat), ∀ (j : Nat), j + r = Z i - 1 → k ≤ j → ∀ (H : Heap) (locs : List Loc), va_P D vwCl ([(x, .inr (3, [.ref t, .ref z, .int (nI md), .ref rf, .ref rw, .ref pl, .ref hd, .ref ha, .ref lo, .ref ol, .ref as_])), (t, .inl (cI, 192, .inl (flT (upR T i (clsF (T i) k (j + 1)))))), (z, .inl (cI, 3, .inl (zI (updN Z i (Z i - 1)))))]) H → va_D A ([(x, .inr (3, [.ref t, .ref z, .int (nI md), .ref rf, .ref rw, .ref pl, .ref hd, .ref ha, .ref lo, .ref ol, .ref as_])), (t, .inl (cI, 192, .inl (flT (upR T i (clsF (T i) k (j + 1)))))), (z, .inl (cI, 3, .inl (zI (updN Z i (Z i - 1)))))]) → va_S A s.heap H locs → ∀ ls : Array Slot, lv_has ls 5 [(4, .int (nI j)), (3, .int (T i k)), (0, .ref x), (1, .int (nI i)), (2, .int (nI k))] → W p_ l e_ ({ frames := 1, cells := 0, slots := 0, locals := 22 } : Room) s m [.ref x, .int (nI i), .int (nI k)].toArray bel meth cd H locs 0 0 (MQ bel (pw_Qm (fun v w => v = some (.int (T i k)) ∧ w = [(x, .inr (3, [.ref t, .ref z, .int (nI md), .ref rf, .ref rw, .ref pl, .ref hd, .ref ha, .ref lo, .ref ol, .ref as_])), (t, .inl (cI, 192, .inl (flT (upR T i (clsF (T i) k (Z i)))))), (z, .inl (cI, 3, .inl (zI (updN Z i (Z i - 1)))))]) D A) [.ref x, .int (nI i), .int (nI k)].toArray s 0 0 A) (F0 m 20 ls []) := by
    intro r
    induction r with
    | zero =>
      intro j hr1 hr2 H locs hP hD hS ls hl
      obtain rfl : j = Z i - 1 := by omega
      rw [show Z i - 1 + 1 = Z i by omega] at hP hD
      refine lv_iload hx hb dX3_close_20 (lv_at hl 0 rfl) ?_
      refine lv_aload_n hx hb dX3_close_22 rfl (lv_at hl 2 rfl) ?_
      refine va_get (D := D) (ci := 3) (v := .ref z) (C := RX3) (T := TX3) (N := 11) hx hb hts hi_X3_close_3 hown hK.1 hP 0 rfl rfl 1 (by decide) (hts _ hf_X3_close_13) (fun _ h9 => h9) rfl dX3_close_23 ?_
      refine lv_iload_n hx hb dX3_close_26 rfl (lv_at hl 3 rfl) ?_
      refine pw_iald hx hb hK.1 hP 2 0 rfl rfl (by decide) (by omega) dX3_close_27 ?_
      refine pw_top (y := nI (Z i - 1)) (congrArg nI (updN_s _ _ _)) ?_
      refine pw_icmp_ge (tgt := 58) hx hb (by omega) (by omega) dX3_close_28 (by decide) (fun c_1 => ?_) (fun c_1 => ?_)
      · have _h := c_1
        refine lv_iload_n hx hb dX3_close_58 rfl (lv_at hl 1 rfl) ?_
        exact pw_iret hx hb hr (rfl) hlocks dX3_close_59 hS hP hD (⟨rfl, rfl⟩)
      · exact absurd c_1 (by omega)
    | succ r ih =>
      intro j hr1 hr2 H locs hP hD hS ls hl
      refine lv_iload hx hb dX3_close_20 (lv_at hl 0 rfl) ?_
      refine lv_aload_n hx hb dX3_close_22 rfl (lv_at hl 2 rfl) ?_
      refine va_get (D := D) (ci := 3) (v := .ref z) (C := RX3) (T := TX3) (N := 11) hx hb hts hi_X3_close_3 hown hK.1 hP 0 rfl rfl 1 (by decide) (hts _ hf_X3_close_13) (fun _ h9 => h9) rfl dX3_close_23 ?_
      refine lv_iload_n hx hb dX3_close_26 rfl (lv_at hl 3 rfl) ?_
      refine pw_iald hx hb hK.1 hP 2 0 rfl rfl (by decide) (by omega) dX3_close_27 ?_
      refine pw_top (y := nI (Z i - 1)) (congrArg nI (updN_s _ _ _)) ?_
      refine pw_icmp_ge (tgt := 58) hx hb (by omega) (by omega) dX3_close_28 (by decide) (fun c_2 => ?_) (fun c_2 => ?_)
      · exact absurd c_2 (by omega)
      · have _h := c_2
        refine lv_aload_n hx hb dX3_close_31 rfl (lv_at hl 2 rfl) ?_
        refine va_get (D := D) (ci := 3) (v := .ref t) (C := RX3) (T := TX3) (N := 11) hx hb hts hi_X3_close_3 hown hK.1 hP 0 rfl rfl 0 (by decide) (hts _ hf_X3_close_7) (fun _ h9 => h9) rfl dX3_close_32 ?_
        refine lv_bipush (v := nI 64) hx hb dX3_close_35 (by decide) ?_
        refine lv_iload_n hx hb dX3_close_37 rfl (lv_at hl 3 rfl) ?_
        refine pw_imul hx hb dX3_close_38 ?_
        refine lv_iload hx hb dX3_close_39 (lv_at hl 0 rfl) ?_
        refine pw_iadd hx hb dX3_close_41 ?_
        refine lv_aload_n hx hb dX3_close_42 rfl (lv_at hl 2 rfl) ?_
        refine lv_iload_n hx hb dX3_close_43 rfl (lv_at hl 3 rfl) ?_
        refine lv_iload hx hb dX3_close_44 (lv_at hl 0 rfl) ?_
        refine lv_iconst (v := nI 1) hx hb dX3_close_46 (by decide) ?_
        refine pw_iadd hx hb dX3_close_47 ?_
        -- m_thing
        refine pw_cVp (As := [.int (nI i), .int (nI (j + 1))]) (rest := [.int (nI ((64 * i) + j)), .ref t]) (wc := [(x, .inr (3, [.ref t, .ref z, .int (nI md), .ref rf, .ref rw, .ref pl, .ref hd, .ref ha, .ref lo, .ref ol, .ref as_])), (t, .inl (cI, 192, .inl (flT (upR T i (clsF (T i) k (j + 1))))))]) ⟨hx, hb, hml, hown, hts⟩ (m_thing l D cI cP cR x t z rf rw pl hd ha lo ol as_ md (upR T i (clsF (T i) k (j + 1))) i (j + 1) (by omega) (by omega)) (cwV 2 hts gX3_close_X3_thing rfl rfl rfl (by decide +kernel) ⟨Nat.le_of_ble_eq_true rfl, Nat.le_of_ble_eq_true rfl⟩) hK hP hD [0, 1] rfl (by decide) 0 rfl rfl rfl rfl hl.1 rfl (Nat.le_of_ble_eq_true rfl) dX3_close_48 ⟨Nat.zero_le _, Nat.zero_le _⟩ ?_
        refine pw_top (y := (clsF (T i) k (j + 1)) (j + 1)) (congrFun (upR_s _ _ _) _) ?_
        refine pw_iast hx hb hK.1 hP hD hS 1 0 rfl rfl (by decide) (by omega) dX3_close_51 (fun H locs hP hD hS => ?_)
        have hP : va_P D vwCl ([(x, .inr (3, [.ref t, .ref z, .int (nI md), .ref rf, .ref rw, .ref pl, .ref hd, .ref ha, .ref lo, .ref ol, .ref as_])), (t, .inl (cI, 192, .inl (upd (flT (upR T i (clsF (T i) k (j + 1)))) ((64 * i) + j) ((clsF (T i) k (j + 1)) (j + 1))))), (z, .inl (cI, 3, .inl (zI (updN Z i (Z i - 1)))))]) H := hP
        have hD : va_D A ([(x, .inr (3, [.ref t, .ref z, .int (nI md), .ref rf, .ref rw, .ref pl, .ref hd, .ref ha, .ref lo, .ref ol, .ref as_])), (t, .inl (cI, 192, .inl (upd (flT (upR T i (clsF (T i) k (j + 1)))) ((64 * i) + j) ((clsF (T i) k (j + 1)) (j + 1))))), (z, .inl (cI, 3, .inl (zI (updN Z i (Z i - 1)))))]) := hD
        rw [flT_upd2 _ _ _ _ _ (by omega)] at hP hD
        refine lv_iinc (v := nI (j + 1)) (lv' := [(4, .int (nI (j + 1))), (3, .int (T i k)), (0, .ref x), (1, .int (nI i)), (2, .int (nI k))]) hx hb dX3_close_52 hl (k := 0) rfl (pw_inc _ 1) (by decide) rfl (fun ls hl => ?_)
        refine lv_goto (tgt := 20) hx hb dX3_close_55 (by decide) ?_
        have eo := clsF_s (T i) k (j + 1) (by omega)
        rw [Nat.add_sub_cancel] at eo
        rw [eo] at hP hD
        exact ih (j + 1) (by omega) (by omega) H locs hP hD hS ls hl
  have e0 : upR T i (clsF (T i) k (k + 1)) = T := by rw [clsF_0 _ _ _ (by omega), upR_i]
  exact loop (Z i - 1 - k) k (by omega) (Nat.le_refl k) H _ (by rw [e0]; exact hP) (by rw [e0]; exact hD) hS ls hl
theorem hi_X3_placeBy_3 : ∀ w ∈ u_ws RX3 TX3 11, w ∈ wsX3_placeBy := by decide +kernel
theorem hf_X3_placeBy_13 : Cond.fieldLink RX3 13 "PegrowModel" "sizes" "[I" ∈ wsX3_placeBy := by decide +kernel
set_option maxHeartbeats 4000000 in
set_option maxRecDepth 100000 in
theorem m_placeBy (l : Launch) (D : va_G) (cI cP cR : ClassId) (x t z rf rw pl hd ha lo ol as_ md : Nat) (T : Nat → Nat → Int32) (Z : Nat → Nat) (i : Nat) (nm la : Int32) (hi : i < 3) (hz : Z i ≤ 60) : pw_Mp l yX3_placeBy wsX3_placeBy ({ frames := 1, cells := 0, slots := 0, locals := 22 } : Room) D cI cP cR [.ref x, .int (nI i), .int (nm), .int (la)] ([(x, .inr (3, [.ref t, .ref z, .int (nI md), .ref rf, .ref rw, .ref pl, .ref hd, .ref ha, .ref lo, .ref ol, .ref as_])), (t, .inl (cI, 192, .inl (flT T))), (z, .inl (cI, 3, .inl (zI Z)))]) (.int (plc (T i) nm la (Z i))) := by
  refine pw_ofp (cc := cX3_placeBy) (maxL := 6) (ret := (some .int)) (own := RX3) (by decide +kernel) rfl rfl (Nat.le_of_ble_eq_true rfl) ?_
  intro p_ e_ s m bel meth cd hE hK hP hD ls hl
  obtain ⟨hx, hb, hr, hml, hown, hts, hlocks⟩ := hE
  have hNW := hK.2
  have hl : lv_has ls 6 [(0, .ref x), (1, .int (nI i)), (2, .int (nm)), (3, .int (la))] := hl
  refine lv_iconst (v := -1) hx hb dX3_placeBy_0 (by decide) ?_
  refine lv_istore (lv' := [(4, .int (-1)), (0, .ref x), (1, .int (nI i)), (2, .int (nm)), (3, .int (la))]) hx hb dX3_placeBy_1 hl (by decide) rfl (fun ls hl => ?_)
  refine lv_iconst (v := nI 0) hx hb dX3_placeBy_3 (by decide) ?_
  refine lv_istore (lv' := [(5, .int (nI 0)), (4, .int (-1)), (0, .ref x), (1, .int (nI i)), (2, .int (nm)), (3, .int (la))]) hx hb dX3_placeBy_4 hl (by decide) rfl (fun ls hl => ?_)
  have loop : ∀ (r : Nat), ∀ (j : Nat), j + r = Z i → ∀ (x4 : Int32), x4 = plc (T i) nm la j → ∀ ls : Array Slot, lv_has ls 6 [(5, .int (nI j)), (4, .int (x4)), (0, .ref x), (1, .int (nI i)), (2, .int (nm)), (3, .int (la))] → W p_ l e_ ({ frames := 1, cells := 0, slots := 0, locals := 22 } : Room) s m [.ref x, .int (nI i), .int (nm), .int (la)].toArray bel meth cd s.heap [] 0 0 (MQ bel (pw_Qp (.int (plc (T i) nm la (Z i)))) [.ref x, .int (nI i), .int (nm), .int (la)].toArray s 0 0 (fun _ => False)) (F0 m 6 ls []) := by
    intro r
    induction r with
    | zero =>
      intro j hr1 x4 ex4 ls hl
      obtain rfl : j = Z i := by omega
      refine lv_iload hx hb dX3_placeBy_6 (lv_at hl 0 rfl) ?_
      refine lv_aload_n hx hb dX3_placeBy_8 rfl (lv_at hl 2 rfl) ?_
      refine va_get (D := D) (ci := 3) (v := .ref z) (C := RX3) (T := TX3) (N := 11) hx hb hts hi_X3_placeBy_3 hown hK.1 hP 0 rfl rfl 1 (by decide) (hts _ hf_X3_placeBy_13) (fun _ h9 => h9) rfl dX3_placeBy_9 ?_
      refine lv_iload_n hx hb dX3_placeBy_12 rfl (lv_at hl 3 rfl) ?_
      refine pw_iald hx hb hK.1 hP 2 0 rfl rfl (by decide) (by omega) dX3_placeBy_13 ?_
      refine pw_top (y := nI (Z i)) rfl ?_
      refine pw_icmp_ge (tgt := 56) hx hb (by omega) (by omega) dX3_placeBy_14 (by decide) (fun c_1 => ?_) (fun c_1 => ?_)
      · have _h := c_1
        refine lv_iload hx hb dX3_placeBy_56 (lv_at hl 1 rfl) ?_
        exact pw_piret hx hb hr (rfl) hlocks dX3_placeBy_58 (by rw [ex4])
      · exact absurd c_1 (by omega)
    | succ r ih =>
      intro j hr1 x4 ex4 ls hl
      refine lv_iload hx hb dX3_placeBy_6 (lv_at hl 0 rfl) ?_
      refine lv_aload_n hx hb dX3_placeBy_8 rfl (lv_at hl 2 rfl) ?_
      refine va_get (D := D) (ci := 3) (v := .ref z) (C := RX3) (T := TX3) (N := 11) hx hb hts hi_X3_placeBy_3 hown hK.1 hP 0 rfl rfl 1 (by decide) (hts _ hf_X3_placeBy_13) (fun _ h9 => h9) rfl dX3_placeBy_9 ?_
      refine lv_iload_n hx hb dX3_placeBy_12 rfl (lv_at hl 3 rfl) ?_
      refine pw_iald hx hb hK.1 hP 2 0 rfl rfl (by decide) (by omega) dX3_placeBy_13 ?_
      refine pw_top (y := nI (Z i)) rfl ?_
      refine pw_icmp_ge (tgt := 56) hx hb (by omega) (by omega) dX3_placeBy_14 (by decide) (fun c_2 => ?_) (fun c_2 => ?_)
      · exact absurd c_2 (by omega)
      · have _h := c_2
        refine lv_aload_n hx hb dX3_placeBy_17 rfl (lv_at hl 2 rfl) ?_
        refine lv_iload_n hx hb dX3_placeBy_18 rfl (lv_at hl 3 rfl) ?_
        refine lv_iload hx hb dX3_placeBy_19 (lv_at hl 0 rfl) ?_
        -- m_thing
        refine pw_cVp (As := [.int (nI i), .int (nI j)]) (rest := []) (wc := [(x, .inr (3, [.ref t, .ref z, .int (nI md), .ref rf, .ref rw, .ref pl, .ref hd, .ref ha, .ref lo, .ref ol, .ref as_])), (t, .inl (cI, 192, .inl (flT T)))]) ⟨hx, hb, hml, hown, hts⟩ (m_thing l D cI cP cR x t z rf rw pl hd ha lo ol as_ md T i j (by omega) (by omega)) (cwV 2 hts gX3_placeBy_X3_thing rfl rfl rfl (by decide +kernel) ⟨Nat.le_of_ble_eq_true rfl, Nat.le_of_ble_eq_true rfl⟩) hK hP hD [0, 1] rfl (by decide) 0 rfl rfl rfl rfl hl.1 rfl (Nat.le_of_ble_eq_true rfl) dX3_placeBy_21 ⟨Nat.zero_le _, Nat.zero_le _⟩ ?_
        refine lv_bipush (v := nI 10) hx hb dX3_placeBy_24 (by decide) ?_
        refine lv_irem hx hb dX3_placeBy_26 (by decide) ?_
        refine lv_iload_n hx hb dX3_placeBy_27 rfl (lv_at hl 4 rfl) ?_
        refine lv_icmp_ne (tgt := 46) hx hb dX3_placeBy_28 (by decide) (fun c_3 => ?_) (fun c_3 => ?_)
        · have _h := c_3
          refine lv_iload hx hb dX3_placeBy_46 (lv_at hl 1 rfl) ?_
          refine lv_istore (lv' := [(4, .int (x4)), (5, .int (nI j)), (0, .ref x), (1, .int (nI i)), (2, .int (nm)), (3, .int (la))]) hx hb dX3_placeBy_48 hl (by decide) rfl (fun ls hl => ?_)
          refine lv_iinc (v := nI (j + 1)) (lv' := [(5, .int (nI (j + 1))), (4, .int (x4)), (0, .ref x), (1, .int (nI i)), (2, .int (nm)), (3, .int (la))]) hx hb dX3_placeBy_50 hl (k := 1) rfl (pw_inc _ 1) (by decide) rfl (fun ls hl => ?_)
          refine lv_goto (tgt := 6) hx hb dX3_placeBy_53 (by decide) ?_
          exact ih (j + 1) (by omega) _ (show _ = if _ then _ else _ from by rw [if_neg (fun q => c_3 q.1)]; exact ex4) ls (lv_sub hl [0, 1, 2, 3, 4, 5] rfl)
        · have _h := c_3
          refine lv_iload_n hx hb dX3_placeBy_31 rfl (lv_at hl 5 rfl) ?_
          refine lv_if_ne (tgt := 41) hx hb dX3_placeBy_32 (by decide) (fun c_4 => ?_) (fun c_4 => ?_)
          · have _h := c_4
            refine lv_iload hx hb dX3_placeBy_41 (lv_at hl 0 rfl) ?_
            refine lv_goto (tgt := 48) hx hb dX3_placeBy_43 (by decide) ?_
            refine lv_istore (lv' := [(4, .int (nI j)), (5, .int (nI j)), (0, .ref x), (1, .int (nI i)), (2, .int (nm)), (3, .int (la))]) hx hb dX3_placeBy_48 hl (by decide) rfl (fun ls hl => ?_)
            refine lv_iinc (v := nI (j + 1)) (lv' := [(5, .int (nI (j + 1))), (4, .int (nI j)), (0, .ref x), (1, .int (nI i)), (2, .int (nm)), (3, .int (la))]) hx hb dX3_placeBy_50 hl (k := 1) rfl (pw_inc _ 1) (by decide) rfl (fun ls hl => ?_)
            refine lv_goto (tgt := 6) hx hb dX3_placeBy_53 (by decide) ?_
            exact ih (j + 1) (by omega) _ (show _ = if _ then _ else _ from by rw [if_pos ⟨c_3, Or.inl c_4⟩]) ls (lv_sub hl [0, 1, 2, 3, 4, 5] rfl)
          · have _h := c_4
            refine lv_iload hx hb dX3_placeBy_35 (lv_at hl 1 rfl) ?_
            refine lv_iconst (v := -1) hx hb dX3_placeBy_37 (by decide) ?_
            refine lv_icmp_ne (tgt := 46) hx hb dX3_placeBy_38 (by decide) (fun c_5 => ?_) (fun c_5 => ?_)
            · have _h := c_5
              refine lv_iload hx hb dX3_placeBy_46 (lv_at hl 1 rfl) ?_
              refine lv_istore (lv' := [(4, .int (x4)), (5, .int (nI j)), (0, .ref x), (1, .int (nI i)), (2, .int (nm)), (3, .int (la))]) hx hb dX3_placeBy_48 hl (by decide) rfl (fun ls hl => ?_)
              refine lv_iinc (v := nI (j + 1)) (lv' := [(5, .int (nI (j + 1))), (4, .int (x4)), (0, .ref x), (1, .int (nI i)), (2, .int (nm)), (3, .int (la))]) hx hb dX3_placeBy_50 hl (k := 1) rfl (pw_inc _ 1) (by decide) rfl (fun ls hl => ?_)
              refine lv_goto (tgt := 6) hx hb dX3_placeBy_53 (by decide) ?_
              exact ih (j + 1) (by omega) _ (show _ = if _ then _ else _ from by rw [if_neg (fun q => q.2.elim (fun z => z c_4) (fun z => c_5 (by rw [ex4]; exact z)))]; exact ex4) ls (lv_sub hl [0, 1, 2, 3, 4, 5] rfl)
            · have _h := c_5
              refine lv_iload hx hb dX3_placeBy_41 (lv_at hl 0 rfl) ?_
              refine lv_goto (tgt := 48) hx hb dX3_placeBy_43 (by decide) ?_
              refine lv_istore (lv' := [(4, .int (nI j)), (5, .int (nI j)), (0, .ref x), (1, .int (nI i)), (2, .int (nm)), (3, .int (la))]) hx hb dX3_placeBy_48 hl (by decide) rfl (fun ls hl => ?_)
              refine lv_iinc (v := nI (j + 1)) (lv' := [(5, .int (nI (j + 1))), (4, .int (nI j)), (0, .ref x), (1, .int (nI i)), (2, .int (nm)), (3, .int (la))]) hx hb dX3_placeBy_50 hl (k := 1) rfl (pw_inc _ 1) (by decide) rfl (fun ls hl => ?_)
              refine lv_goto (tgt := 6) hx hb dX3_placeBy_53 (by decide) ?_
              exact ih (j + 1) (by omega) _ (show _ = if _ then _ else _ from by rw [if_pos ⟨c_3, Or.inr (by rw [← ex4]; exact c_5)⟩]) ls (lv_sub hl [0, 1, 2, 3, 4, 5] rfl)
  exact loop (Z i) 0 (by omega) _ rfl ls hl
