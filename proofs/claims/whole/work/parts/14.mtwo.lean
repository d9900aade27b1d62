set_option maxHeartbeats 4000000 in
set_option maxRecDepth 100000 in
theorem m_areTwo_t (l : Launch) (D : va_G) (cI cP cR : ClassId) (i j : Nat) (hi : i < 3) (hj : j < 3) (hne : ¬ i = j) : pw_Mp l yX3_areTwo wsX3_areTwo ({ frames := 2, cells := 0, slots := 0, locals := 42 } : Room) D cI cP cR [.int (nI i), .int (nI j)] ([]) (.int (nI 1)) := by
  refine pw_ofp (cc := cX3_areTwo) (maxL := 2) (ret := (some .boolean)) (own := RX3) (by decide +kernel) rfl rfl (Nat.le_of_ble_eq_true rfl) ?_
  intro p_ e_ s m bel meth cd hE hK hP hD ls hl
  obtain ⟨hx, hb, hr, hml, hown, hts, hlocks⟩ := hE
  have hNW := hK.2
  have hl : lv_has ls 2 [(0, .int (nI i)), (1, .int (nI j))] := hl
  refine lv_iload_n hx hb dX3_areTwo_0 rfl (lv_at hl 0 rfl) ?_
  -- m_isRow_t
  refine pw_cSp (As := [.int (nI i)]) (rest := []) ⟨hx, hb, hml, hown, hts⟩ (m_isRow_t l D cI cP cR i (by omega)) (va_cwS 1 hts gX3_areTwo_X3_isRow rfl rfl rfl (by decide +kernel) ⟨Nat.le_of_ble_eq_true rfl, Nat.le_of_ble_eq_true rfl⟩) hK rfl hl.1 rfl (Nat.le_of_ble_eq_true rfl) dX3_areTwo_1 ⟨Nat.zero_le _, Nat.zero_le _⟩ ?_
  refine lv_if_eq (tgt := 23) hx hb dX3_areTwo_4 (by decide) (fun c => absurd c (by decide)) (fun c => ?_)
  refine lv_iload_n hx hb dX3_areTwo_7 rfl (lv_at hl 1 rfl) ?_
  -- m_isRow_t
  refine pw_cSp (As := [.int (nI j)]) (rest := []) ⟨hx, hb, hml, hown, hts⟩ (m_isRow_t l D cI cP cR j (by omega)) (va_cwS 1 hts gX3_areTwo_X3_isRow rfl rfl rfl (by decide +kernel) ⟨Nat.le_of_ble_eq_true rfl, Nat.le_of_ble_eq_true rfl⟩) hK rfl hl.1 rfl (Nat.le_of_ble_eq_true rfl) dX3_areTwo_8 ⟨Nat.zero_le _, Nat.zero_le _⟩ ?_
  refine lv_if_eq (tgt := 23) hx hb dX3_areTwo_11 (by decide) (fun c => absurd c (by decide)) (fun c => ?_)
  refine lv_iload_n hx hb dX3_areTwo_14 rfl (lv_at hl 0 rfl) ?_
  refine lv_iload_n hx hb dX3_areTwo_15 rfl (lv_at hl 1 rfl) ?_
  refine pw_icmp_eq (tgt := 23) hx hb (by omega) (by omega) dX3_areTwo_16 (by decide) (fun c_1 => ?_) (fun c_1 => ?_)
  · exact absurd c_1 hne
  · have _h := c_1
    refine lv_iconst (v := nI 1) hx hb dX3_areTwo_19 (by decide) ?_
    refine lv_goto (tgt := 24) hx hb dX3_areTwo_20 (by decide) ?_
    exact pw_piret hx hb hr (rfl) hlocks dX3_areTwo_24 (rfl)
set_option maxHeartbeats 4000000 in
set_option maxRecDepth 100000 in
theorem m_areTwo_f (l : Launch) (D : va_G) (cI cP cR : ClassId) (row other : Int32) (hbad : ¬ ((0 ≤ row ∧ row < nI 3) ∧ (0 ≤ other ∧ other < nI 3) ∧ ¬ row = other)) : pw_Mp l yX3_areTwo wsX3_areTwo ({ frames := 2, cells := 0, slots := 0, locals := 42 } : Room) D cI cP cR [.int (row), .int (other)] ([]) (.int (nI 0)) := by
  refine pw_ofp (cc := cX3_areTwo) (maxL := 2) (ret := (some .boolean)) (own := RX3) (by decide +kernel) rfl rfl (Nat.le_of_ble_eq_true rfl) ?_
  intro p_ e_ s m bel meth cd hE hK hP hD ls hl
  obtain ⟨hx, hb, hr, hml, hown, hts, hlocks⟩ := hE
  have hNW := hK.2
  have hl : lv_has ls 2 [(0, .int (row)), (1, .int (other))] := hl
  by_cases hx_row : 0 ≤ row ∧ row < nI 3
  · obtain ⟨rj_1, hrj_1, rfl⟩ := pw_inP (by decide) hx_row
    by_cases hx_other : 0 ≤ other ∧ other < nI 3
    · obtain ⟨oj_2, hoj_2, rfl⟩ := pw_inP (by decide) hx_other
      refine lv_iload_n hx hb dX3_areTwo_0 rfl (lv_at hl 0 rfl) ?_
      -- m_isRow_t
      refine pw_cSp (As := [.int (nI rj_1)]) (rest := []) ⟨hx, hb, hml, hown, hts⟩ (m_isRow_t l D cI cP cR rj_1 (by omega)) (va_cwS 1 hts gX3_areTwo_X3_isRow rfl rfl rfl (by decide +kernel) ⟨Nat.le_of_ble_eq_true rfl, Nat.le_of_ble_eq_true rfl⟩) hK rfl hl.1 rfl (Nat.le_of_ble_eq_true rfl) dX3_areTwo_1 ⟨Nat.zero_le _, Nat.zero_le _⟩ ?_
      refine lv_if_eq (tgt := 23) hx hb dX3_areTwo_4 (by decide) (fun c => absurd c (by decide)) (fun c => ?_)
      refine lv_iload_n hx hb dX3_areTwo_7 rfl (lv_at hl 1 rfl) ?_
      -- m_isRow_t
      refine pw_cSp (As := [.int (nI oj_2)]) (rest := []) ⟨hx, hb, hml, hown, hts⟩ (m_isRow_t l D cI cP cR oj_2 (by omega)) (va_cwS 1 hts gX3_areTwo_X3_isRow rfl rfl rfl (by decide +kernel) ⟨Nat.le_of_ble_eq_true rfl, Nat.le_of_ble_eq_true rfl⟩) hK rfl hl.1 rfl (Nat.le_of_ble_eq_true rfl) dX3_areTwo_8 ⟨Nat.zero_le _, Nat.zero_le _⟩ ?_
      refine lv_if_eq (tgt := 23) hx hb dX3_areTwo_11 (by decide) (fun c => absurd c (by decide)) (fun c => ?_)
      refine lv_iload_n hx hb dX3_areTwo_14 rfl (lv_at hl 0 rfl) ?_
      refine lv_iload_n hx hb dX3_areTwo_15 rfl (lv_at hl 1 rfl) ?_
      refine pw_icmp_eq (tgt := 23) hx hb (by omega) (by omega) dX3_areTwo_16 (by decide) (fun c_3 => ?_) (fun c_3 => ?_)
      · have _h := c_3
        refine lv_iconst (v := nI 0) hx hb dX3_areTwo_23 (by decide) ?_
        exact pw_piret hx hb hr (rfl) hlocks dX3_areTwo_24 (rfl)
      · exact absurd ⟨hx_row, hx_other, fun q => c_3 ((pw_eqN (by omega) (by omega)).mp q)⟩ hbad
    · have _h := hx_other
      refine lv_iload_n hx hb dX3_areTwo_0 rfl (lv_at hl 0 rfl) ?_
      -- m_isRow_t
      refine pw_cSp (As := [.int (nI rj_1)]) (rest := []) ⟨hx, hb, hml, hown, hts⟩ (m_isRow_t l D cI cP cR rj_1 (by omega)) (va_cwS 1 hts gX3_areTwo_X3_isRow rfl rfl rfl (by decide +kernel) ⟨Nat.le_of_ble_eq_true rfl, Nat.le_of_ble_eq_true rfl⟩) hK rfl hl.1 rfl (Nat.le_of_ble_eq_true rfl) dX3_areTwo_1 ⟨Nat.zero_le _, Nat.zero_le _⟩ ?_
      refine lv_if_eq (tgt := 23) hx hb dX3_areTwo_4 (by decide) (fun c => absurd c (by decide)) (fun c => ?_)
      refine lv_iload_n hx hb dX3_areTwo_7 rfl (lv_at hl 1 rfl) ?_
      -- m_isRow_f
      refine pw_cSp (As := [.int (other)]) (rest := []) ⟨hx, hb, hml, hown, hts⟩ (m_isRow_f l D cI cP cR other hx_other) (va_cwS 1 hts gX3_areTwo_X3_isRow rfl rfl rfl (by decide +kernel) ⟨Nat.le_of_ble_eq_true rfl, Nat.le_of_ble_eq_true rfl⟩) hK rfl hl.1 rfl (Nat.le_of_ble_eq_true rfl) dX3_areTwo_8 ⟨Nat.zero_le _, Nat.zero_le _⟩ ?_
      refine lv_if_eq (tgt := 23) hx hb dX3_areTwo_11 (by decide) (fun c => ?_) (fun c => absurd c (by decide))
      refine lv_iconst (v := nI 0) hx hb dX3_areTwo_23 (by decide) ?_
      exact pw_piret hx hb hr (rfl) hlocks dX3_areTwo_24 (rfl)
  · have _h := hx_row
    by_cases hx_other : 0 ≤ other ∧ other < nI 3
    · obtain ⟨oj_4, hoj_4, rfl⟩ := pw_inP (by decide) hx_other
      refine lv_iload_n hx hb dX3_areTwo_0 rfl (lv_at hl 0 rfl) ?_
      -- m_isRow_f
      refine pw_cSp (As := [.int (row)]) (rest := []) ⟨hx, hb, hml, hown, hts⟩ (m_isRow_f l D cI cP cR row hx_row) (va_cwS 1 hts gX3_areTwo_X3_isRow rfl rfl rfl (by decide +kernel) ⟨Nat.le_of_ble_eq_true rfl, Nat.le_of_ble_eq_true rfl⟩) hK rfl hl.1 rfl (Nat.le_of_ble_eq_true rfl) dX3_areTwo_1 ⟨Nat.zero_le _, Nat.zero_le _⟩ ?_
      refine lv_if_eq (tgt := 23) hx hb dX3_areTwo_4 (by decide) (fun c => ?_) (fun c => absurd c (by decide))
      refine lv_iconst (v := nI 0) hx hb dX3_areTwo_23 (by decide) ?_
      exact pw_piret hx hb hr (rfl) hlocks dX3_areTwo_24 (rfl)
    · have _h := hx_other
      refine lv_iload_n hx hb dX3_areTwo_0 rfl (lv_at hl 0 rfl) ?_
      -- m_isRow_f
      refine pw_cSp (As := [.int (row)]) (rest := []) ⟨hx, hb, hml, hown, hts⟩ (m_isRow_f l D cI cP cR row hx_row) (va_cwS 1 hts gX3_areTwo_X3_isRow rfl rfl rfl (by decide +kernel) ⟨Nat.le_of_ble_eq_true rfl, Nat.le_of_ble_eq_true rfl⟩) hK rfl hl.1 rfl (Nat.le_of_ble_eq_true rfl) dX3_areTwo_1 ⟨Nat.zero_le _, Nat.zero_le _⟩ ?_
      refine lv_if_eq (tgt := 23) hx hb dX3_areTwo_4 (by decide) (fun c => ?_) (fun c => absurd c (by decide))
      refine lv_iconst (v := nI 0) hx hb dX3_areTwo_23 (by decide) ?_
      exact pw_piret hx hb hr (rfl) hlocks dX3_areTwo_24 (rfl)
set_option maxHeartbeats 4000000 in
set_option maxRecDepth 100000 in
theorem n_all_x (l : Launch) (D : va_G) (cI cP cR : ClassId) (x t z rf rw pl hd ha lo ol as_ md : Nat) (T : Nat → Nat → Int32) (Z : Nat → Nat) (RF R P Hd HA Lo Ol AS : Nat → Int32) (row q other : Int32) (hbad : ¬ ((0 ≤ row ∧ row < nI 3) ∧ (0 ≤ other ∧ other < nI 3) ∧ ¬ row = other)) : pw_Mp l yX3_all wsX3_all ({ frames := 3, cells := 0, slots := 0, locals := 65 } : Room) D cI cP cR [.ref x, .int (row), .int (q), .int (other)] ([(x, .inr (3, [.ref t, .ref z, .int (nI md), .ref rf, .ref rw, .ref pl, .ref hd, .ref ha, .ref lo, .ref ol, .ref as_])), (t, .inl (cI, 192, .inl (flT T))), (z, .inl (cI, 3, .inl (zI Z))), (rf, .inl (cI, 4, .inl (RF))), (rw, .inl (cI, 4, .inl (R))), (pl, .inl (cI, 4, .inl (P))), (hd, .inl (cI, 4, .inl (Hd))), (ha, .inl (cI, 4, .inl (HA))), (lo, .inl (cI, 4, .inl (Lo))), (ol, .inl (cI, 4, .inl (Ol))), (as_, .inl (cI, 64, .inl (AS)))]) (.int (-1)) := by
  refine pw_ofp (cc := cX3_all) (maxL := 6) (ret := (some .int)) (own := RX3) (by decide +kernel) rfl rfl (Nat.le_of_ble_eq_true rfl) ?_
  intro p_ e_ s m bel meth cd hE hK hP hD ls hl
  obtain ⟨hx, hb, hr, hml, hown, hts, hlocks⟩ := hE
  have hNW := hK.2
  have hl : lv_has ls 6 [(0, .ref x), (1, .int (row)), (2, .int (q)), (3, .int (other))] := hl
  refine lv_iload_n hx hb dX3_all_0 rfl (lv_at hl 1 rfl) ?_
  refine lv_iload_n hx hb dX3_all_1 rfl (lv_at hl 3 rfl) ?_
  -- m_areTwo_f
  refine pw_cSp (As := [.int (row), .int (other)]) (rest := []) ⟨hx, hb, hml, hown, hts⟩ (m_areTwo_f l D cI cP cR row other hbad) (va_cwS 2 hts gX3_all_X3_areTwo rfl rfl rfl (by decide +kernel) ⟨Nat.le_of_ble_eq_true rfl, Nat.le_of_ble_eq_true rfl⟩) hK rfl hl.1 rfl (Nat.le_of_ble_eq_true rfl) dX3_all_2 ⟨Nat.zero_le _, Nat.zero_le _⟩ ?_
  refine lv_if_ne (tgt := 10) hx hb dX3_all_5 (by decide) (fun c => absurd c (by decide)) (fun c => ?_)
  refine lv_iconst (v := -1) hx hb dX3_all_8 (by decide) ?_
  exact pw_piret hx hb hr (rfl) hlocks dX3_all_9 (rfl)
set_option maxHeartbeats 4000000 in
set_option maxRecDepth 100000 in
theorem n_copy_x (l : Launch) (D : va_G) (cI cP cR : ClassId) (x t z rf rw pl hd ha lo ol as_ md : Nat) (T : Nat → Nat → Int32) (Z : Nat → Nat) (RF R P Hd HA Lo Ol AS : Nat → Int32) (row other : Int32) (hbad : ¬ ((0 ≤ row ∧ row < nI 3) ∧ (0 ≤ other ∧ other < nI 3) ∧ ¬ row = other)) : pw_Mp l yX3_copy wsX3_copy ({ frames := 3, cells := 0, slots := 0, locals := 65 } : Room) D cI cP cR [.ref x, .int (row), .int (other)] ([(x, .inr (3, [.ref t, .ref z, .int (nI md), .ref rf, .ref rw, .ref pl, .ref hd, .ref ha, .ref lo, .ref ol, .ref as_])), (t, .inl (cI, 192, .inl (flT T))), (z, .inl (cI, 3, .inl (zI Z))), (rf, .inl (cI, 4, .inl (RF))), (rw, .inl (cI, 4, .inl (R))), (pl, .inl (cI, 4, .inl (P))), (hd, .inl (cI, 4, .inl (Hd))), (ha, .inl (cI, 4, .inl (HA))), (lo, .inl (cI, 4, .inl (Lo))), (ol, .inl (cI, 4, .inl (Ol))), (as_, .inl (cI, 64, .inl (AS)))]) (.int (-1)) := by
  refine pw_ofp (cc := cX3_copy) (maxL := 4) (ret := (some .int)) (own := RX3) (by decide +kernel) rfl rfl (Nat.le_of_ble_eq_true rfl) ?_
  intro p_ e_ s m bel meth cd hE hK hP hD ls hl
  obtain ⟨hx, hb, hr, hml, hown, hts, hlocks⟩ := hE
  have hNW := hK.2
  have hl : lv_has ls 4 [(0, .ref x), (1, .int (row)), (2, .int (other))] := hl
  refine lv_iload_n hx hb dX3_copy_0 rfl (lv_at hl 1 rfl) ?_
  refine lv_iload_n hx hb dX3_copy_1 rfl (lv_at hl 2 rfl) ?_
  -- m_areTwo_f
  refine pw_cSp (As := [.int (row), .int (other)]) (rest := []) ⟨hx, hb, hml, hown, hts⟩ (m_areTwo_f l D cI cP cR row other hbad) (va_cwS 2 hts gX3_copy_X3_areTwo rfl rfl rfl (by decide +kernel) ⟨Nat.le_of_ble_eq_true rfl, Nat.le_of_ble_eq_true rfl⟩) hK rfl hl.1 rfl (Nat.le_of_ble_eq_true rfl) dX3_copy_2 ⟨Nat.zero_le _, Nat.zero_le _⟩ ?_
  refine lv_if_ne (tgt := 10) hx hb dX3_copy_5 (by decide) (fun c => absurd c (by decide)) (fun c => ?_)
  refine lv_iconst (v := -1) hx hb dX3_copy_8 (by decide) ?_
  exact pw_piret hx hb hr (rfl) hlocks dX3_copy_9 (rfl)
set_option maxHeartbeats 4000000 in
set_option maxRecDepth 100000 in
theorem n_weave_x (l : Launch) (D : va_G) (cI cP cR : ClassId) (x t z rf rw pl hd ha lo ol as_ md : Nat) (T : Nat → Nat → Int32) (Z : Nat → Nat) (RF R P Hd HA Lo Ol AS : Nat → Int32) (row other : Int32) (hbad : ¬ ((0 ≤ row ∧ row < nI 3) ∧ (0 ≤ other ∧ other < nI 3) ∧ ¬ row = other)) : pw_Mp l yX3_weave wsX3_weave ({ frames := 3, cells := 0, slots := 0, locals := 65 } : Room) D cI cP cR [.ref x, .int (row), .int (other)] ([(x, .inr (3, [.ref t, .ref z, .int (nI md), .ref rf, .ref rw, .ref pl, .ref hd, .ref ha, .ref lo, .ref ol, .ref as_])), (t, .inl (cI, 192, .inl (flT T))), (z, .inl (cI, 3, .inl (zI Z))), (rf, .inl (cI, 4, .inl (RF))), (rw, .inl (cI, 4, .inl (R))), (pl, .inl (cI, 4, .inl (P))), (hd, .inl (cI, 4, .inl (Hd))), (ha, .inl (cI, 4, .inl (HA))), (lo, .inl (cI, 4, .inl (Lo))), (ol, .inl (cI, 4, .inl (Ol))), (as_, .inl (cI, 64, .inl (AS)))]) (.int (-1)) := by
  refine pw_ofp (cc := cX3_weave) (maxL := 7) (ret := (some .int)) (own := RX3) (by decide +kernel) rfl rfl (Nat.le_of_ble_eq_true rfl) ?_
  intro p_ e_ s m bel meth cd hE hK hP hD ls hl
  obtain ⟨hx, hb, hr, hml, hown, hts, hlocks⟩ := hE
  have hNW := hK.2
  have hl : lv_has ls 7 [(0, .ref x), (1, .int (row)), (2, .int (other))] := hl
  refine lv_iload_n hx hb dX3_weave_0 rfl (lv_at hl 1 rfl) ?_
  refine lv_iload_n hx hb dX3_weave_1 rfl (lv_at hl 2 rfl) ?_
  -- m_areTwo_f
  refine pw_cSp (As := [.int (row), .int (other)]) (rest := []) ⟨hx, hb, hml, hown, hts⟩ (m_areTwo_f l D cI cP cR row other hbad) (va_cwS 2 hts gX3_weave_X3_areTwo rfl rfl rfl (by decide +kernel) ⟨Nat.le_of_ble_eq_true rfl, Nat.le_of_ble_eq_true rfl⟩) hK rfl hl.1 rfl (Nat.le_of_ble_eq_true rfl) dX3_weave_2 ⟨Nat.zero_le _, Nat.zero_le _⟩ ?_
  refine lv_if_ne (tgt := 10) hx hb dX3_weave_5 (by decide) (fun c => absurd c (by decide)) (fun c => ?_)
  refine lv_iconst (v := -1) hx hb dX3_weave_8 (by decide) ?_
  exact pw_piret hx hb hr (rfl) hlocks dX3_weave_9 (rfl)
theorem hi_X3_all_3 : ∀ w ∈ u_ws RX3 TX3 11, w ∈ wsX3_all := by decide +kernel
theorem hf_X3_all_13 : Cond.fieldLink RX3 13 "PegrowModel" "sizes" "[I" ∈ wsX3_all := by decide +kernel
set_option maxHeartbeats 4000000 in
set_option maxRecDepth 100000 in
theorem n_all_0 (l : Launch) (D : va_G) (cI cP cR : ClassId) (x t z rf rw pl hd ha lo ol as_ md : Nat) (T : Nat → Nat → Int32) (Z : Nat → Nat) (RF R P Hd HA Lo Ol AS : Nat → Int32) (i j : Nat) (hi : i < 3) (hj : j < 3) (hne : ¬ i = j) (hz : Z i ≤ 60) (hzj : Z j ≤ 60) (q : Int32) (hzz : Z j = 0) : pw_Mp l yX3_all wsX3_all ({ frames := 3, cells := 0, slots := 0, locals := 65 } : Room) D cI cP cR [.ref x, .int (nI i), .int (q), .int (nI j)] ([(x, .inr (3, [.ref t, .ref z, .int (nI md), .ref rf, .ref rw, .ref pl, .ref hd, .ref ha, .ref lo, .ref ol, .ref as_])), (t, .inl (cI, 192, .inl (flT T))), (z, .inl (cI, 3, .inl (zI Z))), (rf, .inl (cI, 4, .inl (RF))), (rw, .inl (cI, 4, .inl (R))), (pl, .inl (cI, 4, .inl (P))), (hd, .inl (cI, 4, .inl (Hd))), (ha, .inl (cI, 4, .inl (HA))), (lo, .inl (cI, 4, .inl (Lo))), (ol, .inl (cI, 4, .inl (Ol))), (as_, .inl (cI, 64, .inl (AS)))]) (.int (nI (Z i))) := by
  refine pw_ofp (cc := cX3_all) (maxL := 6) (ret := (some .int)) (own := RX3) (by decide +kernel) rfl rfl (Nat.le_of_ble_eq_true rfl) ?_
  intro p_ e_ s m bel meth cd hE hK hP hD ls hl
  obtain ⟨hx, hb, hr, hml, hown, hts, hlocks⟩ := hE
  have hNW := hK.2
  have hl : lv_has ls 6 [(0, .ref x), (1, .int (nI i)), (2, .int (q)), (3, .int (nI j))] := hl
  refine lv_iload_n hx hb dX3_all_0 rfl (lv_at hl 1 rfl) ?_
  refine lv_iload_n hx hb dX3_all_1 rfl (lv_at hl 3 rfl) ?_
  -- m_areTwo_t
  refine pw_cSp (As := [.int (nI i), .int (nI j)]) (rest := []) ⟨hx, hb, hml, hown, hts⟩ (m_areTwo_t l D cI cP cR i j (by omega) (by omega) (by omega)) (va_cwS 2 hts gX3_all_X3_areTwo rfl rfl rfl (by decide +kernel) ⟨Nat.le_of_ble_eq_true rfl, Nat.le_of_ble_eq_true rfl⟩) hK rfl hl.1 rfl (Nat.le_of_ble_eq_true rfl) dX3_all_2 ⟨Nat.zero_le _, Nat.zero_le _⟩ ?_
  refine lv_if_ne (tgt := 10) hx hb dX3_all_5 (by decide) (fun c => ?_) (fun c => absurd c (by decide))
  refine lv_aload_n hx hb dX3_all_10 rfl (lv_at hl 0 rfl) ?_
  refine va_get (D := D) (ci := 3) (v := .ref z) (C := RX3) (T := TX3) (N := 11) hx hb hts hi_X3_all_3 hown hK.1 hP 0 rfl rfl 1 (by decide) (hts _ hf_X3_all_13) (fun _ h9 => h9) rfl dX3_all_11 ?_
  refine lv_iload_n hx hb dX3_all_14 rfl (lv_at hl 3 rfl) ?_
  refine pw_iald hx hb hK.1 hP 2 0 rfl rfl (by decide) (by omega) dX3_all_15 ?_
  refine pw_top (y := nI (Z j)) rfl ?_
  refine pw_if_ne (tgt := 26) hx hb (by omega) dX3_all_16 (by decide) (fun c_1 => ?_) (fun c_1 => ?_)
  · exact absurd hzz c_1
  · have _h := c_1
    refine lv_aload_n hx hb dX3_all_19 rfl (lv_at hl 0 rfl) ?_
    refine va_get (D := D) (ci := 3) (v := .ref z) (C := RX3) (T := TX3) (N := 11) hx hb hts hi_X3_all_3 hown hK.1 hP 0 rfl rfl 1 (by decide) (hts _ hf_X3_all_13) (fun _ h9 => h9) rfl dX3_all_20 ?_
    refine lv_iload_n hx hb dX3_all_23 rfl (lv_at hl 1 rfl) ?_
    refine pw_iald hx hb hK.1 hP 2 0 rfl rfl (by decide) (by omega) dX3_all_24 ?_
    refine pw_top (y := nI (Z i)) rfl ?_
    exact pw_piret hx hb hr (rfl) hlocks dX3_all_25 (rfl)
set_option maxHeartbeats 4000000 in
set_option maxRecDepth 100000 in
theorem n_all_f (l : Launch) (D : va_G) (cI cP cR : ClassId) (x t z rf rw pl hd ha lo ol as_ md : Nat) (T : Nat → Nat → Int32) (Z : Nat → Nat) (RF R P Hd HA Lo Ol AS : Nat → Int32) (i j : Nat) (hi : i < 3) (hj : j < 3) (hne : ¬ i = j) (hz : Z i ≤ 60) (hzj : Z j ≤ 60) (q : Int32) (hzz : ¬ Z j = 0) (hf : ¬ Z i + Z j ≤ 60) : pw_Mp l yX3_all wsX3_all ({ frames := 3, cells := 0, slots := 0, locals := 65 } : Room) D cI cP cR [.ref x, .int (nI i), .int (q), .int (nI j)] ([(x, .inr (3, [.ref t, .ref z, .int (nI md), .ref rf, .ref rw, .ref pl, .ref hd, .ref ha, .ref lo, .ref ol, .ref as_])), (t, .inl (cI, 192, .inl (flT T))), (z, .inl (cI, 3, .inl (zI Z))), (rf, .inl (cI, 4, .inl (RF))), (rw, .inl (cI, 4, .inl (R))), (pl, .inl (cI, 4, .inl (P))), (hd, .inl (cI, 4, .inl (Hd))), (ha, .inl (cI, 4, .inl (HA))), (lo, .inl (cI, 4, .inl (Lo))), (ol, .inl (cI, 4, .inl (Ol))), (as_, .inl (cI, 64, .inl (AS)))]) (.int (-3)) := by
  refine pw_ofp (cc := cX3_all) (maxL := 6) (ret := (some .int)) (own := RX3) (by decide +kernel) rfl rfl (Nat.le_of_ble_eq_true rfl) ?_
  intro p_ e_ s m bel meth cd hE hK hP hD ls hl
  obtain ⟨hx, hb, hr, hml, hown, hts, hlocks⟩ := hE
  have hNW := hK.2
  have hl : lv_has ls 6 [(0, .ref x), (1, .int (nI i)), (2, .int (q)), (3, .int (nI j))] := hl
  refine lv_iload_n hx hb dX3_all_0 rfl (lv_at hl 1 rfl) ?_
  refine lv_iload_n hx hb dX3_all_1 rfl (lv_at hl 3 rfl) ?_
  -- m_areTwo_t
  refine pw_cSp (As := [.int (nI i), .int (nI j)]) (rest := []) ⟨hx, hb, hml, hown, hts⟩ (m_areTwo_t l D cI cP cR i j (by omega) (by omega) (by omega)) (va_cwS 2 hts gX3_all_X3_areTwo rfl rfl rfl (by decide +kernel) ⟨Nat.le_of_ble_eq_true rfl, Nat.le_of_ble_eq_true rfl⟩) hK rfl hl.1 rfl (Nat.le_of_ble_eq_true rfl) dX3_all_2 ⟨Nat.zero_le _, Nat.zero_le _⟩ ?_
  refine lv_if_ne (tgt := 10) hx hb dX3_all_5 (by decide) (fun c => ?_) (fun c => absurd c (by decide))
  refine lv_aload_n hx hb dX3_all_10 rfl (lv_at hl 0 rfl) ?_
  refine va_get (D := D) (ci := 3) (v := .ref z) (C := RX3) (T := TX3) (N := 11) hx hb hts hi_X3_all_3 hown hK.1 hP 0 rfl rfl 1 (by decide) (hts _ hf_X3_all_13) (fun _ h9 => h9) rfl dX3_all_11 ?_
  refine lv_iload_n hx hb dX3_all_14 rfl (lv_at hl 3 rfl) ?_
  refine pw_iald hx hb hK.1 hP 2 0 rfl rfl (by decide) (by omega) dX3_all_15 ?_
  refine pw_top (y := nI (Z j)) rfl ?_
  refine pw_if_ne (tgt := 26) hx hb (by omega) dX3_all_16 (by decide) (fun c_1 => ?_) (fun c_1 => ?_)
  · have _h := c_1
    refine lv_aload_n hx hb dX3_all_26 rfl (lv_at hl 0 rfl) ?_
    refine va_get (D := D) (ci := 3) (v := .ref z) (C := RX3) (T := TX3) (N := 11) hx hb hts hi_X3_all_3 hown hK.1 hP 0 rfl rfl 1 (by decide) (hts _ hf_X3_all_13) (fun _ h9 => h9) rfl dX3_all_27 ?_
    refine lv_iload_n hx hb dX3_all_30 rfl (lv_at hl 1 rfl) ?_
    refine pw_iald hx hb hK.1 hP 2 0 rfl rfl (by decide) (by omega) dX3_all_31 ?_
    refine pw_top (y := nI (Z i)) rfl ?_
    refine lv_aload_n hx hb dX3_all_32 rfl (lv_at hl 0 rfl) ?_
    refine va_get (D := D) (ci := 3) (v := .ref z) (C := RX3) (T := TX3) (N := 11) hx hb hts hi_X3_all_3 hown hK.1 hP 0 rfl rfl 1 (by decide) (hts _ hf_X3_all_13) (fun _ h9 => h9) rfl dX3_all_33 ?_
    refine lv_iload_n hx hb dX3_all_36 rfl (lv_at hl 3 rfl) ?_
    refine pw_iald hx hb hK.1 hP 2 0 rfl rfl (by decide) (by omega) dX3_all_37 ?_
    refine pw_top (y := nI (Z j)) rfl ?_
    refine pw_iadd hx hb dX3_all_38 ?_
    refine lv_bipush (v := nI 60) hx hb dX3_all_39 (by decide) ?_
    refine pw_icmp_le (tgt := 47) hx hb (by omega) (by omega) dX3_all_41 (by decide) (fun c_2 => ?_) (fun c_2 => ?_)
    · exact absurd c_2 hf
    · have _h := c_2
      refine lv_bipush (v := -3) hx hb dX3_all_44 (by decide) ?_
      exact pw_piret hx hb hr (rfl) hlocks dX3_all_46 (rfl)
  · exact absurd c_1 hzz
set_option maxHeartbeats 4000000 in
set_option maxRecDepth 100000 in
theorem n_all_p (l : Launch) (D : va_G) (cI cP cR : ClassId) (x t z rf rw pl hd ha lo ol as_ md : Nat) (T : Nat → Nat → Int32) (Z : Nat → Nat) (RF R P Hd HA Lo Ol AS : Nat → Int32) (i j : Nat) (hi : i < 3) (hj : j < 3) (hne : ¬ i = j) (hz : Z i ≤ 60) (hzj : Z j ≤ 60) (q : Int32) (hzz : ¬ Z j = 0) (hf : Z i + Z j ≤ 60) (hq1 : ¬ q = -1) (hq : ¬ (0 ≤ q ∧ q ≤ nI (Z i))) : pw_Mm l yX3_all wsX3_all ({ frames := 3, cells := 0, slots := 0, locals := 65 } : Room) D cI cP cR [.ref x, .int (nI i), .int (q), .int (nI j)] ([(x, .inr (3, [.ref t, .ref z, .int (nI md), .ref rf, .ref rw, .ref pl, .ref hd, .ref ha, .ref lo, .ref ol, .ref as_])), (t, .inl (cI, 192, .inl (flT T))), (z, .inl (cI, 3, .inl (zI Z))), (rf, .inl (cI, 4, .inl (RF))), (rw, .inl (cI, 4, .inl (R))), (pl, .inl (cI, 4, .inl (P))), (hd, .inl (cI, 4, .inl (Hd))), (ha, .inl (cI, 4, .inl (HA))), (lo, .inl (cI, 4, .inl (Lo))), (ol, .inl (cI, 4, .inl (Ol))), (as_, .inl (cI, 64, .inl (AS)))]) (fun v w => v = some (.int (-5)) ∧ w = [(x, .inr (3, [.ref t, .ref z, .int (nI md), .ref rf, .ref rw, .ref pl, .ref hd, .ref ha, .ref lo, .ref ol, .ref as_])), (t, .inl (cI, 192, .inl (flT T))), (z, .inl (cI, 3, .inl (zI Z))), (rf, .inl (cI, 4, .inl (upd RF 1 (RF 1 + nI 1)))), (rw, .inl (cI, 4, .inl (R))), (pl, .inl (cI, 4, .inl (P))), (hd, .inl (cI, 4, .inl (Hd))), (ha, .inl (cI, 4, .inl (HA))), (lo, .inl (cI, 4, .inl (Lo))), (ol, .inl (cI, 4, .inl (Ol))), (as_, .inl (cI, 64, .inl (AS)))]) := by
  refine pw_ofm (cc := cX3_all) (maxL := 6) (ret := (some .int)) (own := RX3) (by decide +kernel) rfl rfl (Nat.le_of_ble_eq_true rfl) ?_
  intro p_ e_ s m bel meth cd A hE hK hP hD hA hS ls hl
  obtain ⟨hx, hb, hr, hml, hown, hts, hlocks⟩ := hE
  have hNW := hK.2
  have hl : lv_has ls 6 [(0, .ref x), (1, .int (nI i)), (2, .int (q)), (3, .int (nI j))] := hl
  refine lv_iload_n hx hb dX3_all_0 rfl (lv_at hl 1 rfl) ?_
  refine lv_iload_n hx hb dX3_all_1 rfl (lv_at hl 3 rfl) ?_
  -- m_areTwo_t
  refine pw_cSp (As := [.int (nI i), .int (nI j)]) (rest := []) ⟨hx, hb, hml, hown, hts⟩ (m_areTwo_t l D cI cP cR i j (by omega) (by omega) (by omega)) (va_cwS 2 hts gX3_all_X3_areTwo rfl rfl rfl (by decide +kernel) ⟨Nat.le_of_ble_eq_true rfl, Nat.le_of_ble_eq_true rfl⟩) hK rfl hl.1 rfl (Nat.le_of_ble_eq_true rfl) dX3_all_2 ⟨Nat.zero_le _, Nat.zero_le _⟩ ?_
  refine lv_if_ne (tgt := 10) hx hb dX3_all_5 (by decide) (fun c => ?_) (fun c => absurd c (by decide))
  refine lv_aload_n hx hb dX3_all_10 rfl (lv_at hl 0 rfl) ?_
  refine va_get (D := D) (ci := 3) (v := .ref z) (C := RX3) (T := TX3) (N := 11) hx hb hts hi_X3_all_3 hown hK.1 hP 0 rfl rfl 1 (by decide) (hts _ hf_X3_all_13) (fun _ h9 => h9) rfl dX3_all_11 ?_
  refine lv_iload_n hx hb dX3_all_14 rfl (lv_at hl 3 rfl) ?_
  refine pw_iald hx hb hK.1 hP 2 0 rfl rfl (by decide) (by omega) dX3_all_15 ?_
  refine pw_top (y := nI (Z j)) rfl ?_
  refine pw_if_ne (tgt := 26) hx hb (by omega) dX3_all_16 (by decide) (fun c_1 => ?_) (fun c_1 => ?_)
  · have _h := c_1
    refine lv_aload_n hx hb dX3_all_26 rfl (lv_at hl 0 rfl) ?_
    refine va_get (D := D) (ci := 3) (v := .ref z) (C := RX3) (T := TX3) (N := 11) hx hb hts hi_X3_all_3 hown hK.1 hP 0 rfl rfl 1 (by decide) (hts _ hf_X3_all_13) (fun _ h9 => h9) rfl dX3_all_27 ?_
    refine lv_iload_n hx hb dX3_all_30 rfl (lv_at hl 1 rfl) ?_
    refine pw_iald hx hb hK.1 hP 2 0 rfl rfl (by decide) (by omega) dX3_all_31 ?_
    refine pw_top (y := nI (Z i)) rfl ?_
    refine lv_aload_n hx hb dX3_all_32 rfl (lv_at hl 0 rfl) ?_
    refine va_get (D := D) (ci := 3) (v := .ref z) (C := RX3) (T := TX3) (N := 11) hx hb hts hi_X3_all_3 hown hK.1 hP 0 rfl rfl 1 (by decide) (hts _ hf_X3_all_13) (fun _ h9 => h9) rfl dX3_all_33 ?_
    refine lv_iload_n hx hb dX3_all_36 rfl (lv_at hl 3 rfl) ?_
    refine pw_iald hx hb hK.1 hP 2 0 rfl rfl (by decide) (by omega) dX3_all_37 ?_
    refine pw_top (y := nI (Z j)) rfl ?_
    refine pw_iadd hx hb dX3_all_38 ?_
    refine lv_bipush (v := nI 60) hx hb dX3_all_39 (by decide) ?_
    refine pw_icmp_le (tgt := 47) hx hb (by omega) (by omega) dX3_all_41 (by decide) (fun c_2 => ?_) (fun c_2 => ?_)
    · have _h := c_2
      refine lv_iload_n hx hb dX3_all_47 rfl (lv_at hl 2 rfl) ?_
      refine lv_iconst (v := -1) hx hb dX3_all_48 (by decide) ?_
      refine lv_aload_n hx hb dX3_all_49 rfl (lv_at hl 0 rfl) ?_
      refine va_get (D := D) (ci := 3) (v := .ref z) (C := RX3) (T := TX3) (N := 11) hx hb hts hi_X3_all_3 hown hK.1 hP 0 rfl rfl 1 (by decide) (hts _ hf_X3_all_13) (fun _ h9 => h9) rfl dX3_all_50 ?_
      refine lv_iload_n hx hb dX3_all_53 rfl (lv_at hl 1 rfl) ?_
      refine pw_iald hx hb hK.1 hP 2 0 rfl rfl (by decide) (by omega) dX3_all_54 ?_
      refine pw_top (y := nI (Z i)) rfl ?_
      -- m_in_f
      refine pw_cSp (As := [.int (q), .int (-1), .int (nI (Z i))]) (rest := []) ⟨hx, hb, hml, hown, hts⟩ (m_in_f l D cI cP cR q (-1) (nI (Z i)) (fun h => hq ⟨pw_m1in h.1 hq1, h.2⟩)) (va_cwS 3 hts gX3_all_X3_in rfl rfl rfl (by decide +kernel) ⟨Nat.le_of_ble_eq_true rfl, Nat.le_of_ble_eq_true rfl⟩) hK rfl hl.1 rfl (Nat.le_of_ble_eq_true rfl) dX3_all_55 ⟨Nat.zero_le _, Nat.zero_le _⟩ ?_
      refine lv_if_ne (tgt := 69) hx hb dX3_all_58 (by decide) (fun c => absurd c (by decide)) (fun c => ?_)
      refine lv_aload_n hx hb dX3_all_61 rfl (lv_at hl 0 rfl) ?_
      refine lv_iconst (v := nI 1) hx hb dX3_all_62 (by decide) ?_
      refine lv_bipush (v := -5) hx hb dX3_all_63 (by decide) ?_
      -- m_refuse
      refine pw_cVm (As := [.int (nI 1), .int (-5)]) (rest := []) (wc := [(x, .inr (3, [.ref t, .ref z, .int (nI md), .ref rf, .ref rw, .ref pl, .ref hd, .ref ha, .ref lo, .ref ol, .ref as_])), (rf, .inl (cI, 4, .inl (RF)))]) (wr := [(t, .inl (cI, 192, .inl (flT T))), (z, .inl (cI, 3, .inl (zI Z))), (rw, .inl (cI, 4, .inl (R))), (pl, .inl (cI, 4, .inl (P))), (hd, .inl (cI, 4, .inl (Hd))), (ha, .inl (cI, 4, .inl (HA))), (lo, .inl (cI, 4, .inl (Lo))), (ol, .inl (cI, 4, .inl (Ol))), (as_, .inl (cI, 64, .inl (AS)))]) ⟨hx, hb, hml, hown, hts⟩ (m_refuse l D cI cP cR x t z rf rw pl hd ha lo ol as_ md RF 1 (-5) (by decide)) (cwV 2 hts gX3_all_X3_refuse rfl rfl rfl (by decide +kernel) ⟨Nat.le_of_ble_eq_true rfl, Nat.le_of_ble_eq_true rfl⟩) hK hP hD hS hA [0, 3] [1, 2, 4, 5, 6, 7, 8, 9, 10] rfl rfl (by decide) (by decide) (by decide) 0 rfl rfl rfl rfl hl.1 rfl (Nat.le_of_ble_eq_true rfl) dX3_all_65 ⟨Nat.zero_le _, Nat.zero_le _⟩ (fun v1 w1 H locs hq hP hD hS => ?_)
      rcases hq with ⟨rfl, rfl⟩
      have hP : va_P D vwCl ([(t, .inl (cI, 192, .inl (flT T))), (z, .inl (cI, 3, .inl (zI Z))), (rw, .inl (cI, 4, .inl (R))), (pl, .inl (cI, 4, .inl (P))), (hd, .inl (cI, 4, .inl (Hd))), (ha, .inl (cI, 4, .inl (HA))), (lo, .inl (cI, 4, .inl (Lo))), (ol, .inl (cI, 4, .inl (Ol))), (as_, .inl (cI, 64, .inl (AS))), (x, .inr (3, [.ref t, .ref z, .int (nI md), .ref rf, .ref rw, .ref pl, .ref hd, .ref ha, .ref lo, .ref ol, .ref as_])), (rf, .inl (cI, 4, .inl (upd RF 1 (RF 1 + nI 1))))]) H := hP
      have hD : va_D A ([(t, .inl (cI, 192, .inl (flT T))), (z, .inl (cI, 3, .inl (zI Z))), (rw, .inl (cI, 4, .inl (R))), (pl, .inl (cI, 4, .inl (P))), (hd, .inl (cI, 4, .inl (Hd))), (ha, .inl (cI, 4, .inl (HA))), (lo, .inl (cI, 4, .inl (Lo))), (ol, .inl (cI, 4, .inl (Ol))), (as_, .inl (cI, 64, .inl (AS))), (x, .inr (3, [.ref t, .ref z, .int (nI md), .ref rf, .ref rw, .ref pl, .ref hd, .ref ha, .ref lo, .ref ol, .ref as_])), (rf, .inl (cI, 4, .inl (upd RF 1 (RF 1 + nI 1))))]) := hD
      refine W.eq (g2 := F0 m 68 ls [.int (-5)]) rfl ?_
      have hP := hP.sub (ws' := [(x, .inr (3, [.ref t, .ref z, .int (nI md), .ref rf, .ref rw, .ref pl, .ref hd, .ref ha, .ref lo, .ref ol, .ref as_])), (t, .inl (cI, 192, .inl (flT T))), (z, .inl (cI, 3, .inl (zI Z))), (rf, .inl (cI, 4, .inl (upd RF 1 (RF 1 + nI 1)))), (rw, .inl (cI, 4, .inl (R))), (pl, .inl (cI, 4, .inl (P))), (hd, .inl (cI, 4, .inl (Hd))), (ha, .inl (cI, 4, .inl (HA))), (lo, .inl (cI, 4, .inl (Lo))), (ol, .inl (cI, 4, .inl (Ol))), (as_, .inl (cI, 64, .inl (AS)))]) [9, 0, 1, 10, 2, 3, 4, 5, 6, 7, 8] rfl
      have hD := hD.sub (ws' := [(x, .inr (3, [.ref t, .ref z, .int (nI md), .ref rf, .ref rw, .ref pl, .ref hd, .ref ha, .ref lo, .ref ol, .ref as_])), (t, .inl (cI, 192, .inl (flT T))), (z, .inl (cI, 3, .inl (zI Z))), (rf, .inl (cI, 4, .inl (upd RF 1 (RF 1 + nI 1)))), (rw, .inl (cI, 4, .inl (R))), (pl, .inl (cI, 4, .inl (P))), (hd, .inl (cI, 4, .inl (Hd))), (ha, .inl (cI, 4, .inl (HA))), (lo, .inl (cI, 4, .inl (Lo))), (ol, .inl (cI, 4, .inl (Ol))), (as_, .inl (cI, 64, .inl (AS)))]) [9, 0, 1, 10, 2, 3, 4, 5, 6, 7, 8] (by decide) rfl
      exact pw_iret hx hb hr (rfl) hlocks dX3_all_68 hS hP hD (⟨rfl, rfl⟩)
    · exact absurd hf (Nat.not_le.mpr c_2)
  · exact absurd c_1 hzz
set_option maxHeartbeats 4000000 in
set_option maxRecDepth 100000 in
theorem n_all_e (l : Launch) (D : va_G) (cI cP cR : ClassId) (x t z rf rw pl hd ha lo ol as_ md : Nat) (T : Nat → Nat → Int32) (Z : Nat → Nat) (RF R P Hd HA Lo Ol AS : Nat → Int32) (i j : Nat) (hi : i < 3) (hj : j < 3) (hne : ¬ i = j) (hz : Z i ≤ 60) (hzj : Z j ≤ 60) (hzz : ¬ Z j = 0) (hf : Z i + Z j ≤ 60) : pw_Mm l yX3_all wsX3_all ({ frames := 3, cells := 0, slots := 0, locals := 65 } : Room) D cI cP cR [.ref x, .int (nI i), .int (-1), .int (nI j)] ([(x, .inr (3, [.ref t, .ref z, .int (nI md), .ref rf, .ref rw, .ref pl, .ref hd, .ref ha, .ref lo, .ref ol, .ref as_])), (t, .inl (cI, 192, .inl (flT T))), (z, .inl (cI, 3, .inl (zI Z))), (rf, .inl (cI, 4, .inl (RF))), (rw, .inl (cI, 4, .inl (R))), (pl, .inl (cI, 4, .inl (P))), (hd, .inl (cI, 4, .inl (Hd))), (ha, .inl (cI, 4, .inl (HA))), (lo, .inl (cI, 4, .inl (Lo))), (ol, .inl (cI, 4, .inl (Ol))), (as_, .inl (cI, 64, .inl (AS)))]) (fun v w => v = some (.int (nI (Z i + Z j))) ∧ w = [(x, .inr (3, [.ref t, .ref z, .int (nI md), .ref rf, .ref rw, .ref pl, .ref hd, .ref ha, .ref lo, .ref ol, .ref as_])), (t, .inl (cI, 192, .inl (flT (upR T i (putF (opn (T i) (Z i) (Z j) (Z i)) (Z i) (T j) (Z j)))))), (z, .inl (cI, 3, .inl (zI (updN Z i (Z i + Z j))))), (rf, .inl (cI, 4, .inl (RF))), (rw, .inl (cI, 4, .inl (R))), (pl, .inl (cI, 4, .inl (P))), (hd, .inl (cI, 4, .inl (Hd))), (ha, .inl (cI, 4, .inl (HA))), (lo, .inl (cI, 4, .inl (Lo))), (ol, .inl (cI, 4, .inl (agF R Ol (nI i) (-1)))), (as_, .inl (cI, 64, .inl (AS)))]) := by
  refine pw_ofm (cc := cX3_all) (maxL := 6) (ret := (some .int)) (own := RX3) (by decide +kernel) rfl rfl (Nat.le_of_ble_eq_true rfl) ?_
  intro p_ e_ s m bel meth cd A hE hK hP hD hA hS ls hl
  obtain ⟨hx, hb, hr, hml, hown, hts, hlocks⟩ := hE
  have hNW := hK.2
  have hl : lv_has ls 6 [(0, .ref x), (1, .int (nI i)), (2, .int (-1)), (3, .int (nI j))] := hl
  refine lv_iload_n hx hb dX3_all_0 rfl (lv_at hl 1 rfl) ?_
  refine lv_iload_n hx hb dX3_all_1 rfl (lv_at hl 3 rfl) ?_
  -- m_areTwo_t
  refine pw_cSp (As := [.int (nI i), .int (nI j)]) (rest := []) ⟨hx, hb, hml, hown, hts⟩ (m_areTwo_t l D cI cP cR i j (by omega) (by omega) (by omega)) (va_cwS 2 hts gX3_all_X3_areTwo rfl rfl rfl (by decide +kernel) ⟨Nat.le_of_ble_eq_true rfl, Nat.le_of_ble_eq_true rfl⟩) hK rfl hl.1 rfl (Nat.le_of_ble_eq_true rfl) dX3_all_2 ⟨Nat.zero_le _, Nat.zero_le _⟩ ?_
  refine lv_if_ne (tgt := 10) hx hb dX3_all_5 (by decide) (fun c => ?_) (fun c => absurd c (by decide))
  refine lv_aload_n hx hb dX3_all_10 rfl (lv_at hl 0 rfl) ?_
  refine va_get (D := D) (ci := 3) (v := .ref z) (C := RX3) (T := TX3) (N := 11) hx hb hts hi_X3_all_3 hown hK.1 hP 0 rfl rfl 1 (by decide) (hts _ hf_X3_all_13) (fun _ h9 => h9) rfl dX3_all_11 ?_
  refine lv_iload_n hx hb dX3_all_14 rfl (lv_at hl 3 rfl) ?_
  refine pw_iald hx hb hK.1 hP 2 0 rfl rfl (by decide) (by omega) dX3_all_15 ?_
  refine pw_top (y := nI (Z j)) rfl ?_
  refine pw_if_ne (tgt := 26) hx hb (by omega) dX3_all_16 (by decide) (fun c_1 => ?_) (fun c_1 => ?_)
  · have _h := c_1
    refine lv_aload_n hx hb dX3_all_26 rfl (lv_at hl 0 rfl) ?_
    refine va_get (D := D) (ci := 3) (v := .ref z) (C := RX3) (T := TX3) (N := 11) hx hb hts hi_X3_all_3 hown hK.1 hP 0 rfl rfl 1 (by decide) (hts _ hf_X3_all_13) (fun _ h9 => h9) rfl dX3_all_27 ?_
    refine lv_iload_n hx hb dX3_all_30 rfl (lv_at hl 1 rfl) ?_
    refine pw_iald hx hb hK.1 hP 2 0 rfl rfl (by decide) (by omega) dX3_all_31 ?_
    refine pw_top (y := nI (Z i)) rfl ?_
    refine lv_aload_n hx hb dX3_all_32 rfl (lv_at hl 0 rfl) ?_
    refine va_get (D := D) (ci := 3) (v := .ref z) (C := RX3) (T := TX3) (N := 11) hx hb hts hi_X3_all_3 hown hK.1 hP 0 rfl rfl 1 (by decide) (hts _ hf_X3_all_13) (fun _ h9 => h9) rfl dX3_all_33 ?_
    refine lv_iload_n hx hb dX3_all_36 rfl (lv_at hl 3 rfl) ?_
    refine pw_iald hx hb hK.1 hP 2 0 rfl rfl (by decide) (by omega) dX3_all_37 ?_
    refine pw_top (y := nI (Z j)) rfl ?_
    refine pw_iadd hx hb dX3_all_38 ?_
    refine lv_bipush (v := nI 60) hx hb dX3_all_39 (by decide) ?_
    refine pw_icmp_le (tgt := 47) hx hb (by omega) (by omega) dX3_all_41 (by decide) (fun c_2 => ?_) (fun c_2 => ?_)
    · have _h := c_2
      refine lv_iload_n hx hb dX3_all_47 rfl (lv_at hl 2 rfl) ?_
      refine lv_iconst (v := -1) hx hb dX3_all_48 (by decide) ?_
      refine lv_aload_n hx hb dX3_all_49 rfl (lv_at hl 0 rfl) ?_
      refine va_get (D := D) (ci := 3) (v := .ref z) (C := RX3) (T := TX3) (N := 11) hx hb hts hi_X3_all_3 hown hK.1 hP 0 rfl rfl 1 (by decide) (hts _ hf_X3_all_13) (fun _ h9 => h9) rfl dX3_all_50 ?_
      refine lv_iload_n hx hb dX3_all_53 rfl (lv_at hl 1 rfl) ?_
      refine pw_iald hx hb hK.1 hP 2 0 rfl rfl (by decide) (by omega) dX3_all_54 ?_
      refine pw_top (y := nI (Z i)) rfl ?_
      -- m_in_t
      refine pw_cSp (As := [.int (-1), .int (-1), .int (nI (Z i))]) (rest := []) ⟨hx, hb, hml, hown, hts⟩ (m_in_t l D cI cP cR (-1) (-1) (nI (Z i)) (⟨by decide, pw_m1le (by omega)⟩)) (va_cwS 3 hts gX3_all_X3_in rfl rfl rfl (by decide +kernel) ⟨Nat.le_of_ble_eq_true rfl, Nat.le_of_ble_eq_true rfl⟩) hK rfl hl.1 rfl (Nat.le_of_ble_eq_true rfl) dX3_all_55 ⟨Nat.zero_le _, Nat.zero_le _⟩ ?_
      refine lv_if_ne (tgt := 69) hx hb dX3_all_58 (by decide) (fun c => ?_) (fun c => absurd c (by decide))
      refine lv_iload_n hx hb dX3_all_69 rfl (lv_at hl 2 rfl) ?_
      refine lv_iconst (v := -1) hx hb dX3_all_70 (by decide) ?_
      refine lv_icmp_ne (tgt := 83) hx hb dX3_all_71 (by decide) (fun c_3 => ?_) (fun c_3 => ?_)
      · exact absurd rfl c_3
      · have _h := c_3
        refine lv_aload_n hx hb dX3_all_74 rfl (lv_at hl 0 rfl) ?_
        refine va_get (D := D) (ci := 3) (v := .ref z) (C := RX3) (T := TX3) (N := 11) hx hb hts hi_X3_all_3 hown hK.1 hP 0 rfl rfl 1 (by decide) (hts _ hf_X3_all_13) (fun _ h9 => h9) rfl dX3_all_75 ?_
        refine lv_iload_n hx hb dX3_all_78 rfl (lv_at hl 1 rfl) ?_
        refine pw_iald hx hb hK.1 hP 2 0 rfl rfl (by decide) (by omega) dX3_all_79 ?_
        refine pw_top (y := nI (Z i)) rfl ?_
        refine lv_goto (tgt := 84) hx hb dX3_all_80 (by decide) ?_
        refine lv_istore (lv' := [(4, .int (nI (Z i))), (0, .ref x), (1, .int (nI i)), (2, .int (-1)), (3, .int (nI j))]) hx hb dX3_all_84 hl (by decide) rfl (fun ls hl => ?_)
        refine lv_iconst (v := nI 0) hx hb dX3_all_86 (by decide) ?_
        refine lv_istore (lv' := [(5, .int (nI 0)), (4, .int (nI (Z i))), (0, .ref x), (1, .int (nI i)), (2, .int (-1)), (3, .int (nI j))]) hx hb dX3_all_87 hl (by decide) rfl (fun ls hl => ?_)
        have loop : ∀ (r : Nat), ∀ (k : Nat), k + r = Z j → ∀ (H : Heap) (locs : List Loc), va_P D vwCl ([(x, .inr (3, [.ref t, .ref z, .int (nI md), .ref rf, .ref rw, .ref pl, .ref hd, .ref ha, .ref lo, .ref ol, .ref as_])), (t, .inl (cI, 192, .inl (flT (upR T i (putF (opn (T i) (Z i) k (Z i)) (Z i) (T j) k))))), (z, .inl (cI, 3, .inl (zI (updN Z i (Z i + k))))), (rf, .inl (cI, 4, .inl (RF))), (rw, .inl (cI, 4, .inl (R))), (pl, .inl (cI, 4, .inl (P))), (hd, .inl (cI, 4, .inl (Hd))), (ha, .inl (cI, 4, .inl (HA))), (lo, .inl (cI, 4, .inl (Lo))), (ol, .inl (cI, 4, .inl (Ol))), (as_, .inl (cI, 64, .inl (AS)))]) H → va_D A ([(x, .inr (3, [.ref t, .ref z, .int (nI md), .ref rf, .ref rw, .ref pl, .ref hd, .ref ha, .ref lo, .ref ol, .ref as_])), (t, .inl (cI, 192, .inl (flT (upR T i (putF (opn (T i) (Z i) k (Z i)) (Z i) (T j) k))))), (z, .inl (cI, 3, .inl (zI (updN Z i (Z i + k))))), (rf, .inl (cI, 4, .inl (RF))), (rw, .inl (cI, 4, .inl (R))), (pl, .inl (cI, 4, .inl (P))), (hd, .inl (cI, 4, .inl (Hd))), (ha, .inl (cI, 4, .inl (HA))), (lo, .inl (cI, 4, .inl (Lo))), (ol, .inl (cI, 4, .inl (Ol))), (as_, .inl (cI, 64, .inl (AS)))]) → va_S A s.heap H locs → ∀ ls : Array Slot, lv_has ls 6 [(5, .int (nI k)), (4, .int (nI ((Z i)))), (0, .ref x), (1, .int (nI i)), (2, .int (-1)), (3, .int (nI j))] → W p_ l e_ ({ frames := 3, cells := 0, slots := 0, locals := 65 } : Room) s m [.ref x, .int (nI i), .int (-1), .int (nI j)].toArray bel meth cd H locs 0 0 (MQ bel (pw_Qm (fun v w => v = some (.int (nI (Z i + Z j))) ∧ w = [(x, .inr (3, [.ref t, .ref z, .int (nI md), .ref rf, .ref rw, .ref pl, .ref hd, .ref ha, .ref lo, .ref ol, .ref as_])), (t, .inl (cI, 192, .inl (flT (upR T i (putF (opn (T i) (Z i) (Z j) (Z i)) (Z i) (T j) (Z j)))))), (z, .inl (cI, 3, .inl (zI (updN Z i (Z i + Z j))))), (rf, .inl (cI, 4, .inl (RF))), (rw, .inl (cI, 4, .inl (R))), (pl, .inl (cI, 4, .inl (P))), (hd, .inl (cI, 4, .inl (Hd))), (ha, .inl (cI, 4, .inl (HA))), (lo, .inl (cI, 4, .inl (Lo))), (ol, .inl (cI, 4, .inl (agF R Ol (nI i) (-1)))), (as_, .inl (cI, 64, .inl (AS)))]) D A) [.ref x, .int (nI i), .int (-1), .int (nI j)].toArray s 0 0 A) (F0 m 89 ls []) := by
          intro r
          induction r with
          | zero =>
            intro k hr1 H locs hP hD hS ls hl
            obtain rfl : k = Z j := by omega
            refine lv_iload hx hb dX3_all_89 (lv_at hl 0 rfl) ?_
            refine lv_aload_n hx hb dX3_all_91 rfl (lv_at hl 2 rfl) ?_
            refine va_get (D := D) (ci := 3) (v := .ref z) (C := RX3) (T := TX3) (N := 11) hx hb hts hi_X3_all_3 hown hK.1 hP 0 rfl rfl 1 (by decide) (hts _ hf_X3_all_13) (fun _ h9 => h9) rfl dX3_all_92 ?_
            refine lv_iload_n hx hb dX3_all_95 rfl (lv_at hl 5 rfl) ?_
            refine pw_iald hx hb hK.1 hP 2 0 rfl rfl (by decide) (by omega) dX3_all_96 ?_
            refine pw_top (y := nI (Z j)) (congrArg nI (updN_n _ _ (by omega))) ?_
            refine pw_icmp_ge (tgt := 123) hx hb (by omega) (by omega) dX3_all_97 (by decide) (fun c_4 => ?_) (fun c_4 => ?_)
            · have _h := c_4
              refine lv_aload_n hx hb dX3_all_123 rfl (lv_at hl 2 rfl) ?_
              refine lv_iload_n hx hb dX3_all_124 rfl (lv_at hl 3 rfl) ?_
              refine lv_iconst (v := -1) hx hb dX3_all_125 (by decide) ?_
              -- m_age
              refine pw_cVm (As := [.int (nI i), .int (-1)]) (rest := []) (wc := [(x, .inr (3, [.ref t, .ref z, .int (nI md), .ref rf, .ref rw, .ref pl, .ref hd, .ref ha, .ref lo, .ref ol, .ref as_])), (rw, .inl (cI, 4, .inl (R))), (ol, .inl (cI, 4, .inl (Ol)))]) (wr := [(t, .inl (cI, 192, .inl (flT (upR T i (putF (opn (T i) (Z i) (Z j) (Z i)) (Z i) (T j) (Z j)))))), (z, .inl (cI, 3, .inl (zI (updN Z i (Z i + (Z j)))))), (rf, .inl (cI, 4, .inl (RF))), (pl, .inl (cI, 4, .inl (P))), (hd, .inl (cI, 4, .inl (Hd))), (ha, .inl (cI, 4, .inl (HA))), (lo, .inl (cI, 4, .inl (Lo))), (as_, .inl (cI, 64, .inl (AS)))]) ⟨hx, hb, hml, hown, hts⟩ (m_age l D cI cP cR x t z rf rw pl hd ha lo ol as_ md R Ol i (-1)) (cwV 2 hts gX3_all_X3_age rfl rfl rfl (by decide +kernel) ⟨Nat.le_of_ble_eq_true rfl, Nat.le_of_ble_eq_true rfl⟩) hK hP hD hS hA [0, 4, 9] [1, 2, 3, 5, 6, 7, 8, 10] rfl rfl (by decide) (by decide) (by decide) 0 rfl rfl rfl rfl hl.1 rfl (Nat.le_of_ble_eq_true rfl) dX3_all_126 ⟨Nat.zero_le _, Nat.zero_le _⟩ (fun v1 w1 H locs hq hP hD hS => ?_)
              rcases hq with ⟨rfl, rfl⟩
              have hP : va_P D vwCl ([(t, .inl (cI, 192, .inl (flT (upR T i (putF (opn (T i) (Z i) (Z j) (Z i)) (Z i) (T j) (Z j)))))), (z, .inl (cI, 3, .inl (zI (updN Z i (Z i + (Z j)))))), (rf, .inl (cI, 4, .inl (RF))), (pl, .inl (cI, 4, .inl (P))), (hd, .inl (cI, 4, .inl (Hd))), (ha, .inl (cI, 4, .inl (HA))), (lo, .inl (cI, 4, .inl (Lo))), (as_, .inl (cI, 64, .inl (AS))), (x, .inr (3, [.ref t, .ref z, .int (nI md), .ref rf, .ref rw, .ref pl, .ref hd, .ref ha, .ref lo, .ref ol, .ref as_])), (rw, .inl (cI, 4, .inl (R))), (ol, .inl (cI, 4, .inl (agF R Ol (nI i) (-1))))]) H := hP
              have hD : va_D A ([(t, .inl (cI, 192, .inl (flT (upR T i (putF (opn (T i) (Z i) (Z j) (Z i)) (Z i) (T j) (Z j)))))), (z, .inl (cI, 3, .inl (zI (updN Z i (Z i + (Z j)))))), (rf, .inl (cI, 4, .inl (RF))), (pl, .inl (cI, 4, .inl (P))), (hd, .inl (cI, 4, .inl (Hd))), (ha, .inl (cI, 4, .inl (HA))), (lo, .inl (cI, 4, .inl (Lo))), (as_, .inl (cI, 64, .inl (AS))), (x, .inr (3, [.ref t, .ref z, .int (nI md), .ref rf, .ref rw, .ref pl, .ref hd, .ref ha, .ref lo, .ref ol, .ref as_])), (rw, .inl (cI, 4, .inl (R))), (ol, .inl (cI, 4, .inl (agF R Ol (nI i) (-1))))]) := hD
              refine W.eq (g2 := F0 m 129 ls []) rfl ?_
              refine lv_aload_n hx hb dX3_all_129 rfl (lv_at hl 2 rfl) ?_
              refine va_get (D := D) (ci := 3) (v := .ref z) (C := RX3) (T := TX3) (N := 11) hx hb hts hi_X3_all_3 hown hK.1 hP 8 rfl rfl 1 (by decide) (hts _ hf_X3_all_13) (fun _ h9 => h9) rfl dX3_all_130 ?_
              refine lv_iload_n hx hb dX3_all_133 rfl (lv_at hl 3 rfl) ?_
              refine pw_iald hx hb hK.1 hP 1 0 rfl rfl (by decide) (by omega) dX3_all_134 ?_
              refine pw_top (y := nI (Z i + (Z j))) (congrArg nI (updN_s _ _ _)) ?_
              have hP := hP.sub (ws' := [(x, .inr (3, [.ref t, .ref z, .int (nI md), .ref rf, .ref rw, .ref pl, .ref hd, .ref ha, .ref lo, .ref ol, .ref as_])), (t, .inl (cI, 192, .inl (flT (upR T i (putF (opn (T i) (Z i) (Z j) (Z i)) (Z i) (T j) (Z j)))))), (z, .inl (cI, 3, .inl (zI (updN Z i (Z i + (Z j)))))), (rf, .inl (cI, 4, .inl (RF))), (rw, .inl (cI, 4, .inl (R))), (pl, .inl (cI, 4, .inl (P))), (hd, .inl (cI, 4, .inl (Hd))), (ha, .inl (cI, 4, .inl (HA))), (lo, .inl (cI, 4, .inl (Lo))), (ol, .inl (cI, 4, .inl (agF R Ol (nI i) (-1)))), (as_, .inl (cI, 64, .inl (AS)))]) [8, 0, 1, 2, 9, 3, 4, 5, 6, 10, 7] rfl
              have hD := hD.sub (ws' := [(x, .inr (3, [.ref t, .ref z, .int (nI md), .ref rf, .ref rw, .ref pl, .ref hd, .ref ha, .ref lo, .ref ol, .ref as_])), (t, .inl (cI, 192, .inl (flT (upR T i (putF (opn (T i) (Z i) (Z j) (Z i)) (Z i) (T j) (Z j)))))), (z, .inl (cI, 3, .inl (zI (updN Z i (Z i + (Z j)))))), (rf, .inl (cI, 4, .inl (RF))), (rw, .inl (cI, 4, .inl (R))), (pl, .inl (cI, 4, .inl (P))), (hd, .inl (cI, 4, .inl (Hd))), (ha, .inl (cI, 4, .inl (HA))), (lo, .inl (cI, 4, .inl (Lo))), (ol, .inl (cI, 4, .inl (agF R Ol (nI i) (-1)))), (as_, .inl (cI, 64, .inl (AS)))]) [8, 0, 1, 2, 9, 3, 4, 5, 6, 10, 7] (by decide) rfl
              exact pw_iret hx hb hr (rfl) hlocks dX3_all_135 hS hP hD (⟨rfl, rfl⟩)
            · exact absurd c_4 (by omega)
          | succ r ih =>
            intro k hr1 H locs hP hD hS ls hl
            refine lv_iload hx hb dX3_all_89 (lv_at hl 0 rfl) ?_
            refine lv_aload_n hx hb dX3_all_91 rfl (lv_at hl 2 rfl) ?_
            refine va_get (D := D) (ci := 3) (v := .ref z) (C := RX3) (T := TX3) (N := 11) hx hb hts hi_X3_all_3 hown hK.1 hP 0 rfl rfl 1 (by decide) (hts _ hf_X3_all_13) (fun _ h9 => h9) rfl dX3_all_92 ?_
            refine lv_iload_n hx hb dX3_all_95 rfl (lv_at hl 5 rfl) ?_
            refine pw_iald hx hb hK.1 hP 2 0 rfl rfl (by decide) (by omega) dX3_all_96 ?_
            refine pw_top (y := nI (Z j)) (congrArg nI (updN_n _ _ (by omega))) ?_
            refine pw_icmp_ge (tgt := 123) hx hb (by omega) (by omega) dX3_all_97 (by decide) (fun c_5 => ?_) (fun c_5 => ?_)
            · exact absurd c_5 (by omega)
            · have _h := c_5
              refine lv_aload_n hx hb dX3_all_100 rfl (lv_at hl 2 rfl) ?_
              refine lv_iload_n hx hb dX3_all_101 rfl (lv_at hl 3 rfl) ?_
              refine lv_iload hx hb dX3_all_102 (lv_at hl 1 rfl) ?_
              refine lv_iload hx hb dX3_all_104 (lv_at hl 0 rfl) ?_
              refine pw_iadd hx hb dX3_all_106 ?_
              refine lv_aload_n hx hb dX3_all_107 rfl (lv_at hl 2 rfl) ?_
              refine lv_iload_n hx hb dX3_all_108 rfl (lv_at hl 5 rfl) ?_
              refine lv_iload hx hb dX3_all_109 (lv_at hl 0 rfl) ?_
              -- m_thing
              refine pw_cVp (As := [.int (nI j), .int (nI k)]) (rest := [.int (nI ((Z i) + k)), .int (nI i), .ref x]) (wc := [(x, .inr (3, [.ref t, .ref z, .int (nI md), .ref rf, .ref rw, .ref pl, .ref hd, .ref ha, .ref lo, .ref ol, .ref as_])), (t, .inl (cI, 192, .inl (flT (upR T i (putF (opn (T i) (Z i) k (Z i)) (Z i) (T j) k)))))]) ⟨hx, hb, hml, hown, hts⟩ (m_thing l D cI cP cR x t z rf rw pl hd ha lo ol as_ md (upR T i (putF (opn (T i) (Z i) k (Z i)) (Z i) (T j) k)) j k (by omega) (by omega)) (cwV 2 hts gX3_all_X3_thing rfl rfl rfl (by decide +kernel) ⟨Nat.le_of_ble_eq_true rfl, Nat.le_of_ble_eq_true rfl⟩) hK hP hD [0, 1] rfl (by decide) 0 rfl rfl rfl rfl hl.1 rfl (Nat.le_of_ble_eq_true rfl) dX3_all_111 ⟨Nat.zero_le _, Nat.zero_le _⟩ ?_
              refine pw_top (y := T j k) (congrFun (upR_n _ _ (by omega)) _) ?_
              -- m_open
              refine pw_cVm (As := [.int (nI i), .int (nI ((Z i) + k)), .int (T j k)]) (rest := []) (wc := [(x, .inr (3, [.ref t, .ref z, .int (nI md), .ref rf, .ref rw, .ref pl, .ref hd, .ref ha, .ref lo, .ref ol, .ref as_])), (t, .inl (cI, 192, .inl (flT (upR T i (putF (opn (T i) (Z i) k (Z i)) (Z i) (T j) k))))), (z, .inl (cI, 3, .inl (zI (updN Z i (Z i + k)))))]) (wr := [(rf, .inl (cI, 4, .inl (RF))), (rw, .inl (cI, 4, .inl (R))), (pl, .inl (cI, 4, .inl (P))), (hd, .inl (cI, 4, .inl (Hd))), (ha, .inl (cI, 4, .inl (HA))), (lo, .inl (cI, 4, .inl (Lo))), (ol, .inl (cI, 4, .inl (Ol))), (as_, .inl (cI, 64, .inl (AS)))]) ⟨hx, hb, hml, hown, hts⟩ (m_open l D cI cP cR x t z rf rw pl hd ha lo ol as_ md (upR T i (putF (opn (T i) (Z i) k (Z i)) (Z i) (T j) k)) (updN Z i (Z i + k)) i ((Z i) + k) (T j k) (by omega) (by rw [updN_s]; omega) (by rw [updN_s]; omega)) (cwV 3 hts gX3_all_X3_open rfl rfl rfl (by decide +kernel) ⟨Nat.le_of_ble_eq_true rfl, Nat.le_of_ble_eq_true rfl⟩) hK hP hD hS hA [0, 1, 2] [3, 4, 5, 6, 7, 8, 9, 10] rfl rfl (by decide) (by decide) (by decide) 0 rfl rfl rfl rfl hl.1 rfl (Nat.le_of_ble_eq_true rfl) dX3_all_114 ⟨Nat.zero_le _, Nat.zero_le _⟩ (fun v1 w1 H locs hq hP hD hS => ?_)
              rcases hq with ⟨rfl, rfl⟩
              simp only [upR_u, upR_s, updN_u, updN_s] at hP hD
              rw [allF_s _ _ _ _ _ (by omega)] at hP hD
              have hP : va_P D vwCl ([(rf, .inl (cI, 4, .inl (RF))), (rw, .inl (cI, 4, .inl (R))), (pl, .inl (cI, 4, .inl (P))), (hd, .inl (cI, 4, .inl (Hd))), (ha, .inl (cI, 4, .inl (HA))), (lo, .inl (cI, 4, .inl (Lo))), (ol, .inl (cI, 4, .inl (Ol))), (as_, .inl (cI, 64, .inl (AS))), (x, .inr (3, [.ref t, .ref z, .int (nI md), .ref rf, .ref rw, .ref pl, .ref hd, .ref ha, .ref lo, .ref ol, .ref as_])), (t, .inl (cI, 192, .inl (flT (upR T i (putF (opn (T i) (Z i) (k + 1) (Z i)) (Z i) (T j) (k + 1)))))), (z, .inl (cI, 3, .inl (zI (updN Z i (Z i + (k + 1))))))]) H := hP
              have hD : va_D A ([(rf, .inl (cI, 4, .inl (RF))), (rw, .inl (cI, 4, .inl (R))), (pl, .inl (cI, 4, .inl (P))), (hd, .inl (cI, 4, .inl (Hd))), (ha, .inl (cI, 4, .inl (HA))), (lo, .inl (cI, 4, .inl (Lo))), (ol, .inl (cI, 4, .inl (Ol))), (as_, .inl (cI, 64, .inl (AS))), (x, .inr (3, [.ref t, .ref z, .int (nI md), .ref rf, .ref rw, .ref pl, .ref hd, .ref ha, .ref lo, .ref ol, .ref as_])), (t, .inl (cI, 192, .inl (flT (upR T i (putF (opn (T i) (Z i) (k + 1) (Z i)) (Z i) (T j) (k + 1)))))), (z, .inl (cI, 3, .inl (zI (updN Z i (Z i + (k + 1))))))]) := hD
              refine W.eq (g2 := F0 m 117 ls []) rfl ?_
              refine lv_iinc (v := nI (k + 1)) (lv' := [(5, .int (nI (k + 1))), (4, .int (nI ((Z i)))), (0, .ref x), (1, .int (nI i)), (2, .int (-1)), (3, .int (nI j))]) hx hb dX3_all_117 hl (k := 0) rfl (pw_inc _ 1) (by decide) rfl (fun ls hl => ?_)
              refine lv_goto (tgt := 89) hx hb dX3_all_120 (by decide) ?_
              have hP := hP.sub (ws' := [(x, .inr (3, [.ref t, .ref z, .int (nI md), .ref rf, .ref rw, .ref pl, .ref hd, .ref ha, .ref lo, .ref ol, .ref as_])), (t, .inl (cI, 192, .inl (flT (upR T i (putF (opn (T i) (Z i) (k + 1) (Z i)) (Z i) (T j) (k + 1)))))), (z, .inl (cI, 3, .inl (zI (updN Z i (Z i + (k + 1)))))), (rf, .inl (cI, 4, .inl (RF))), (rw, .inl (cI, 4, .inl (R))), (pl, .inl (cI, 4, .inl (P))), (hd, .inl (cI, 4, .inl (Hd))), (ha, .inl (cI, 4, .inl (HA))), (lo, .inl (cI, 4, .inl (Lo))), (ol, .inl (cI, 4, .inl (Ol))), (as_, .inl (cI, 64, .inl (AS)))]) [8, 9, 10, 0, 1, 2, 3, 4, 5, 6, 7] rfl
              have hD := hD.sub (ws' := [(x, .inr (3, [.ref t, .ref z, .int (nI md), .ref rf, .ref rw, .ref pl, .ref hd, .ref ha, .ref lo, .ref ol, .ref as_])), (t, .inl (cI, 192, .inl (flT (upR T i (putF (opn (T i) (Z i) (k + 1) (Z i)) (Z i) (T j) (k + 1)))))), (z, .inl (cI, 3, .inl (zI (updN Z i (Z i + (k + 1)))))), (rf, .inl (cI, 4, .inl (RF))), (rw, .inl (cI, 4, .inl (R))), (pl, .inl (cI, 4, .inl (P))), (hd, .inl (cI, 4, .inl (Hd))), (ha, .inl (cI, 4, .inl (HA))), (lo, .inl (cI, 4, .inl (Lo))), (ol, .inl (cI, 4, .inl (Ol))), (as_, .inl (cI, 64, .inl (AS)))]) [8, 9, 10, 0, 1, 2, 3, 4, 5, 6, 7] (by decide) rfl
              exact ih (k + 1) (by omega) H locs hP hD hS ls hl
        have e0 : upR T i (putF (opn (T i) (Z i) 0 (Z i)) (Z i) (T j) 0) = T := by rw [allF_0, upR_i]
        have e1 : updN Z i (Z i + 0) = Z := by rw [Nat.add_zero, updN_i]
        exact loop (Z j) 0 (by omega) s.heap [] (by rw [e0, e1]; exact hP) (by rw [e0, e1]; exact hD) hS ls (lv_sub hl [0, 1, 2, 3, 4, 5] rfl)
    · exact absurd hf (Nat.not_le.mpr c_2)
  · exact absurd c_1 hzz
set_option maxHeartbeats 4000000 in
set_option maxRecDepth 100000 in
theorem n_all (l : Launch) (D : va_G) (cI cP cR : ClassId) (x t z rf rw pl hd ha lo ol as_ md : Nat) (T : Nat → Nat → Int32) (Z : Nat → Nat) (RF R P Hd HA Lo Ol AS : Nat → Int32) (i j : Nat) (hi : i < 3) (hj : j < 3) (hne : ¬ i = j) (hz : Z i ≤ 60) (hzj : Z j ≤ 60) (q : Nat) (hzz : ¬ Z j = 0) (hf : Z i + Z j ≤ 60) (hq : q ≤ Z i) : pw_Mm l yX3_all wsX3_all ({ frames := 3, cells := 0, slots := 0, locals := 65 } : Room) D cI cP cR [.ref x, .int (nI i), .int (nI q), .int (nI j)] ([(x, .inr (3, [.ref t, .ref z, .int (nI md), .ref rf, .ref rw, .ref pl, .ref hd, .ref ha, .ref lo, .ref ol, .ref as_])), (t, .inl (cI, 192, .inl (flT T))), (z, .inl (cI, 3, .inl (zI Z))), (rf, .inl (cI, 4, .inl (RF))), (rw, .inl (cI, 4, .inl (R))), (pl, .inl (cI, 4, .inl (P))), (hd, .inl (cI, 4, .inl (Hd))), (ha, .inl (cI, 4, .inl (HA))), (lo, .inl (cI, 4, .inl (Lo))), (ol, .inl (cI, 4, .inl (Ol))), (as_, .inl (cI, 64, .inl (AS)))]) (fun v w => v = some (.int (nI (Z i + Z j))) ∧ w = [(x, .inr (3, [.ref t, .ref z, .int (nI md), .ref rf, .ref rw, .ref pl, .ref hd, .ref ha, .ref lo, .ref ol, .ref as_])), (t, .inl (cI, 192, .inl (flT (upR T i (putF (opn (T i) q (Z j) (Z i)) q (T j) (Z j)))))), (z, .inl (cI, 3, .inl (zI (updN Z i (Z i + Z j))))), (rf, .inl (cI, 4, .inl (RF))), (rw, .inl (cI, 4, .inl (R))), (pl, .inl (cI, 4, .inl (P))), (hd, .inl (cI, 4, .inl (Hd))), (ha, .inl (cI, 4, .inl (HA))), (lo, .inl (cI, 4, .inl (Lo))), (ol, .inl (cI, 4, .inl (agF R Ol (nI i) (-1)))), (as_, .inl (cI, 64, .inl (AS)))]) := by
  refine pw_ofm (cc := cX3_all) (maxL := 6) (ret := (some .int)) (own := RX3) (by decide +kernel) rfl rfl (Nat.le_of_ble_eq_true rfl) ?_
  intro p_ e_ s m bel meth cd A hE hK hP hD hA hS ls hl
  obtain ⟨hx, hb, hr, hml, hown, hts, hlocks⟩ := hE
  have hNW := hK.2
  have hl : lv_has ls 6 [(0, .ref x), (1, .int (nI i)), (2, .int (nI q)), (3, .int (nI j))] := hl
  refine lv_iload_n hx hb dX3_all_0 rfl (lv_at hl 1 rfl) ?_
  refine lv_iload_n hx hb dX3_all_1 rfl (lv_at hl 3 rfl) ?_
  -- m_areTwo_t
  refine pw_cSp (As := [.int (nI i), .int (nI j)]) (rest := []) ⟨hx, hb, hml, hown, hts⟩ (m_areTwo_t l D cI cP cR i j (by omega) (by omega) (by omega)) (va_cwS 2 hts gX3_all_X3_areTwo rfl rfl rfl (by decide +kernel) ⟨Nat.le_of_ble_eq_true rfl, Nat.le_of_ble_eq_true rfl⟩) hK rfl hl.1 rfl (Nat.le_of_ble_eq_true rfl) dX3_all_2 ⟨Nat.zero_le _, Nat.zero_le _⟩ ?_
  refine lv_if_ne (tgt := 10) hx hb dX3_all_5 (by decide) (fun c => ?_) (fun c => absurd c (by decide))
  refine lv_aload_n hx hb dX3_all_10 rfl (lv_at hl 0 rfl) ?_
  refine va_get (D := D) (ci := 3) (v := .ref z) (C := RX3) (T := TX3) (N := 11) hx hb hts hi_X3_all_3 hown hK.1 hP 0 rfl rfl 1 (by decide) (hts _ hf_X3_all_13) (fun _ h9 => h9) rfl dX3_all_11 ?_
  refine lv_iload_n hx hb dX3_all_14 rfl (lv_at hl 3 rfl) ?_
  refine pw_iald hx hb hK.1 hP 2 0 rfl rfl (by decide) (by omega) dX3_all_15 ?_
  refine pw_top (y := nI (Z j)) rfl ?_
  refine pw_if_ne (tgt := 26) hx hb (by omega) dX3_all_16 (by decide) (fun c_1 => ?_) (fun c_1 => ?_)
  · have _h := c_1
    refine lv_aload_n hx hb dX3_all_26 rfl (lv_at hl 0 rfl) ?_
    refine va_get (D := D) (ci := 3) (v := .ref z) (C := RX3) (T := TX3) (N := 11) hx hb hts hi_X3_all_3 hown hK.1 hP 0 rfl rfl 1 (by decide) (hts _ hf_X3_all_13) (fun _ h9 => h9) rfl dX3_all_27 ?_
    refine lv_iload_n hx hb dX3_all_30 rfl (lv_at hl 1 rfl) ?_
    refine pw_iald hx hb hK.1 hP 2 0 rfl rfl (by decide) (by omega) dX3_all_31 ?_
    refine pw_top (y := nI (Z i)) rfl ?_
    refine lv_aload_n hx hb dX3_all_32 rfl (lv_at hl 0 rfl) ?_
    refine va_get (D := D) (ci := 3) (v := .ref z) (C := RX3) (T := TX3) (N := 11) hx hb hts hi_X3_all_3 hown hK.1 hP 0 rfl rfl 1 (by decide) (hts _ hf_X3_all_13) (fun _ h9 => h9) rfl dX3_all_33 ?_
    refine lv_iload_n hx hb dX3_all_36 rfl (lv_at hl 3 rfl) ?_
    refine pw_iald hx hb hK.1 hP 2 0 rfl rfl (by decide) (by omega) dX3_all_37 ?_
    refine pw_top (y := nI (Z j)) rfl ?_
    refine pw_iadd hx hb dX3_all_38 ?_
    refine lv_bipush (v := nI 60) hx hb dX3_all_39 (by decide) ?_
    refine pw_icmp_le (tgt := 47) hx hb (by omega) (by omega) dX3_all_41 (by decide) (fun c_2 => ?_) (fun c_2 => ?_)
    · have _h := c_2
      refine lv_iload_n hx hb dX3_all_47 rfl (lv_at hl 2 rfl) ?_
      refine lv_iconst (v := -1) hx hb dX3_all_48 (by decide) ?_
      refine lv_aload_n hx hb dX3_all_49 rfl (lv_at hl 0 rfl) ?_
      refine va_get (D := D) (ci := 3) (v := .ref z) (C := RX3) (T := TX3) (N := 11) hx hb hts hi_X3_all_3 hown hK.1 hP 0 rfl rfl 1 (by decide) (hts _ hf_X3_all_13) (fun _ h9 => h9) rfl dX3_all_50 ?_
      refine lv_iload_n hx hb dX3_all_53 rfl (lv_at hl 1 rfl) ?_
      refine pw_iald hx hb hK.1 hP 2 0 rfl rfl (by decide) (by omega) dX3_all_54 ?_
      refine pw_top (y := nI (Z i)) rfl ?_
      -- m_in_t
      refine pw_cSp (As := [.int (nI q), .int (-1), .int (nI (Z i))]) (rest := []) ⟨hx, hb, hml, hown, hts⟩ (m_in_t l D cI cP cR (nI q) (-1) (nI (Z i)) (⟨pw_m1le (by omega), (pw_leN (by omega) (by omega)).mpr (by omega)⟩)) (va_cwS 3 hts gX3_all_X3_in rfl rfl rfl (by decide +kernel) ⟨Nat.le_of_ble_eq_true rfl, Nat.le_of_ble_eq_true rfl⟩) hK rfl hl.1 rfl (Nat.le_of_ble_eq_true rfl) dX3_all_55 ⟨Nat.zero_le _, Nat.zero_le _⟩ ?_
      refine lv_if_ne (tgt := 69) hx hb dX3_all_58 (by decide) (fun c => ?_) (fun c => absurd c (by decide))
      refine lv_iload_n hx hb dX3_all_69 rfl (lv_at hl 2 rfl) ?_
      refine lv_iconst (v := -1) hx hb dX3_all_70 (by decide) ?_
      refine lv_icmp_ne (tgt := 83) hx hb dX3_all_71 (by decide) (fun c_3 => ?_) (fun c_3 => ?_)
      · have _h := c_3
        refine lv_iload_n hx hb dX3_all_83 rfl (lv_at hl 2 rfl) ?_
        refine lv_istore (lv' := [(4, .int (nI q)), (0, .ref x), (1, .int (nI i)), (2, .int (nI q)), (3, .int (nI j))]) hx hb dX3_all_84 hl (by decide) rfl (fun ls hl => ?_)
        refine lv_iconst (v := nI 0) hx hb dX3_all_86 (by decide) ?_
        refine lv_istore (lv' := [(5, .int (nI 0)), (4, .int (nI q)), (0, .ref x), (1, .int (nI i)), (2, .int (nI q)), (3, .int (nI j))]) hx hb dX3_all_87 hl (by decide) rfl (fun ls hl => ?_)
        have loop : ∀ (r : Nat), ∀ (k : Nat), k + r = Z j → ∀ (H : Heap) (locs : List Loc), va_P D vwCl ([(x, .inr (3, [.ref t, .ref z, .int (nI md), .ref rf, .ref rw, .ref pl, .ref hd, .ref ha, .ref lo, .ref ol, .ref as_])), (t, .inl (cI, 192, .inl (flT (upR T i (putF (opn (T i) q k (Z i)) q (T j) k))))), (z, .inl (cI, 3, .inl (zI (updN Z i (Z i + k))))), (rf, .inl (cI, 4, .inl (RF))), (rw, .inl (cI, 4, .inl (R))), (pl, .inl (cI, 4, .inl (P))), (hd, .inl (cI, 4, .inl (Hd))), (ha, .inl (cI, 4, .inl (HA))), (lo, .inl (cI, 4, .inl (Lo))), (ol, .inl (cI, 4, .inl (Ol))), (as_, .inl (cI, 64, .inl (AS)))]) H → va_D A ([(x, .inr (3, [.ref t, .ref z, .int (nI md), .ref rf, .ref rw, .ref pl, .ref hd, .ref ha, .ref lo, .ref ol, .ref as_])), (t, .inl (cI, 192, .inl (flT (upR T i (putF (opn (T i) q k (Z i)) q (T j) k))))), (z, .inl (cI, 3, .inl (zI (updN Z i (Z i + k))))), (rf, .inl (cI, 4, .inl (RF))), (rw, .inl (cI, 4, .inl (R))), (pl, .inl (cI, 4, .inl (P))), (hd, .inl (cI, 4, .inl (Hd))), (ha, .inl (cI, 4, .inl (HA))), (lo, .inl (cI, 4, .inl (Lo))), (ol, .inl (cI, 4, .inl (Ol))), (as_, .inl (cI, 64, .inl (AS)))]) → va_S A s.heap H locs → ∀ ls : Array Slot, lv_has ls 6 [(5, .int (nI k)), (4, .int (nI q)), (0, .ref x), (1, .int (nI i)), (2, .int (nI q)), (3, .int (nI j))] → W p_ l e_ ({ frames := 3, cells := 0, slots := 0, locals := 65 } : Room) s m [.ref x, .int (nI i), .int (nI q), .int (nI j)].toArray bel meth cd H locs 0 0 (MQ bel (pw_Qm (fun v w => v = some (.int (nI (Z i + Z j))) ∧ w = [(x, .inr (3, [.ref t, .ref z, .int (nI md), .ref rf, .ref rw, .ref pl, .ref hd, .ref ha, .ref lo, .ref ol, .ref as_])), (t, .inl (cI, 192, .inl (flT (upR T i (putF (opn (T i) q (Z j) (Z i)) q (T j) (Z j)))))), (z, .inl (cI, 3, .inl (zI (updN Z i (Z i + Z j))))), (rf, .inl (cI, 4, .inl (RF))), (rw, .inl (cI, 4, .inl (R))), (pl, .inl (cI, 4, .inl (P))), (hd, .inl (cI, 4, .inl (Hd))), (ha, .inl (cI, 4, .inl (HA))), (lo, .inl (cI, 4, .inl (Lo))), (ol, .inl (cI, 4, .inl (agF R Ol (nI i) (-1)))), (as_, .inl (cI, 64, .inl (AS)))]) D A) [.ref x, .int (nI i), .int (nI q), .int (nI j)].toArray s 0 0 A) (F0 m 89 ls []) := by
          intro r
          induction r with
          | zero =>
            intro k hr1 H locs hP hD hS ls hl
            obtain rfl : k = Z j := by omega
            refine lv_iload hx hb dX3_all_89 (lv_at hl 0 rfl) ?_
            refine lv_aload_n hx hb dX3_all_91 rfl (lv_at hl 2 rfl) ?_
            refine va_get (D := D) (ci := 3) (v := .ref z) (C := RX3) (T := TX3) (N := 11) hx hb hts hi_X3_all_3 hown hK.1 hP 0 rfl rfl 1 (by decide) (hts _ hf_X3_all_13) (fun _ h9 => h9) rfl dX3_all_92 ?_
            refine lv_iload_n hx hb dX3_all_95 rfl (lv_at hl 5 rfl) ?_
            refine pw_iald hx hb hK.1 hP 2 0 rfl rfl (by decide) (by omega) dX3_all_96 ?_
            refine pw_top (y := nI (Z j)) (congrArg nI (updN_n _ _ (by omega))) ?_
            refine pw_icmp_ge (tgt := 123) hx hb (by omega) (by omega) dX3_all_97 (by decide) (fun c_4 => ?_) (fun c_4 => ?_)
            · have _h := c_4
              refine lv_aload_n hx hb dX3_all_123 rfl (lv_at hl 2 rfl) ?_
              refine lv_iload_n hx hb dX3_all_124 rfl (lv_at hl 3 rfl) ?_
              refine lv_iconst (v := -1) hx hb dX3_all_125 (by decide) ?_
              -- m_age
              refine pw_cVm (As := [.int (nI i), .int (-1)]) (rest := []) (wc := [(x, .inr (3, [.ref t, .ref z, .int (nI md), .ref rf, .ref rw, .ref pl, .ref hd, .ref ha, .ref lo, .ref ol, .ref as_])), (rw, .inl (cI, 4, .inl (R))), (ol, .inl (cI, 4, .inl (Ol)))]) (wr := [(t, .inl (cI, 192, .inl (flT (upR T i (putF (opn (T i) q (Z j) (Z i)) q (T j) (Z j)))))), (z, .inl (cI, 3, .inl (zI (updN Z i (Z i + (Z j)))))), (rf, .inl (cI, 4, .inl (RF))), (pl, .inl (cI, 4, .inl (P))), (hd, .inl (cI, 4, .inl (Hd))), (ha, .inl (cI, 4, .inl (HA))), (lo, .inl (cI, 4, .inl (Lo))), (as_, .inl (cI, 64, .inl (AS)))]) ⟨hx, hb, hml, hown, hts⟩ (m_age l D cI cP cR x t z rf rw pl hd ha lo ol as_ md R Ol i (-1)) (cwV 2 hts gX3_all_X3_age rfl rfl rfl (by decide +kernel) ⟨Nat.le_of_ble_eq_true rfl, Nat.le_of_ble_eq_true rfl⟩) hK hP hD hS hA [0, 4, 9] [1, 2, 3, 5, 6, 7, 8, 10] rfl rfl (by decide) (by decide) (by decide) 0 rfl rfl rfl rfl hl.1 rfl (Nat.le_of_ble_eq_true rfl) dX3_all_126 ⟨Nat.zero_le _, Nat.zero_le _⟩ (fun v1 w1 H locs hq hP hD hS => ?_)
              rcases hq with ⟨rfl, rfl⟩
              have hP : va_P D vwCl ([(t, .inl (cI, 192, .inl (flT (upR T i (putF (opn (T i) q (Z j) (Z i)) q (T j) (Z j)))))), (z, .inl (cI, 3, .inl (zI (updN Z i (Z i + (Z j)))))), (rf, .inl (cI, 4, .inl (RF))), (pl, .inl (cI, 4, .inl (P))), (hd, .inl (cI, 4, .inl (Hd))), (ha, .inl (cI, 4, .inl (HA))), (lo, .inl (cI, 4, .inl (Lo))), (as_, .inl (cI, 64, .inl (AS))), (x, .inr (3, [.ref t, .ref z, .int (nI md), .ref rf, .ref rw, .ref pl, .ref hd, .ref ha, .ref lo, .ref ol, .ref as_])), (rw, .inl (cI, 4, .inl (R))), (ol, .inl (cI, 4, .inl (agF R Ol (nI i) (-1))))]) H := hP
              have hD : va_D A ([(t, .inl (cI, 192, .inl (flT (upR T i (putF (opn (T i) q (Z j) (Z i)) q (T j) (Z j)))))), (z, .inl (cI, 3, .inl (zI (updN Z i (Z i + (Z j)))))), (rf, .inl (cI, 4, .inl (RF))), (pl, .inl (cI, 4, .inl (P))), (hd, .inl (cI, 4, .inl (Hd))), (ha, .inl (cI, 4, .inl (HA))), (lo, .inl (cI, 4, .inl (Lo))), (as_, .inl (cI, 64, .inl (AS))), (x, .inr (3, [.ref t, .ref z, .int (nI md), .ref rf, .ref rw, .ref pl, .ref hd, .ref ha, .ref lo, .ref ol, .ref as_])), (rw, .inl (cI, 4, .inl (R))), (ol, .inl (cI, 4, .inl (agF R Ol (nI i) (-1))))]) := hD
              refine W.eq (g2 := F0 m 129 ls []) rfl ?_
              refine lv_aload_n hx hb dX3_all_129 rfl (lv_at hl 2 rfl) ?_
              refine va_get (D := D) (ci := 3) (v := .ref z) (C := RX3) (T := TX3) (N := 11) hx hb hts hi_X3_all_3 hown hK.1 hP 8 rfl rfl 1 (by decide) (hts _ hf_X3_all_13) (fun _ h9 => h9) rfl dX3_all_130 ?_
              refine lv_iload_n hx hb dX3_all_133 rfl (lv_at hl 3 rfl) ?_
              refine pw_iald hx hb hK.1 hP 1 0 rfl rfl (by decide) (by omega) dX3_all_134 ?_
              refine pw_top (y := nI (Z i + (Z j))) (congrArg nI (updN_s _ _ _)) ?_
              have hP := hP.sub (ws' := [(x, .inr (3, [.ref t, .ref z, .int (nI md), .ref rf, .ref rw, .ref pl, .ref hd, .ref ha, .ref lo, .ref ol, .ref as_])), (t, .inl (cI, 192, .inl (flT (upR T i (putF (opn (T i) q (Z j) (Z i)) q (T j) (Z j)))))), (z, .inl (cI, 3, .inl (zI (updN Z i (Z i + (Z j)))))), (rf, .inl (cI, 4, .inl (RF))), (rw, .inl (cI, 4, .inl (R))), (pl, .inl (cI, 4, .inl (P))), (hd, .inl (cI, 4, .inl (Hd))), (ha, .inl (cI, 4, .inl (HA))), (lo, .inl (cI, 4, .inl (Lo))), (ol, .inl (cI, 4, .inl (agF R Ol (nI i) (-1)))), (as_, .inl (cI, 64, .inl (AS)))]) [8, 0, 1, 2, 9, 3, 4, 5, 6, 10, 7] rfl
              have hD := hD.sub (ws' := [(x, .inr (3, [.ref t, .ref z, .int (nI md), .ref rf, .ref rw, .ref pl, .ref hd, .ref ha, .ref lo, .ref ol, .ref as_])), (t, .inl (cI, 192, .inl (flT (upR T i (putF (opn (T i) q (Z j) (Z i)) q (T j) (Z j)))))), (z, .inl (cI, 3, .inl (zI (updN Z i (Z i + (Z j)))))), (rf, .inl (cI, 4, .inl (RF))), (rw, .inl (cI, 4, .inl (R))), (pl, .inl (cI, 4, .inl (P))), (hd, .inl (cI, 4, .inl (Hd))), (ha, .inl (cI, 4, .inl (HA))), (lo, .inl (cI, 4, .inl (Lo))), (ol, .inl (cI, 4, .inl (agF R Ol (nI i) (-1)))), (as_, .inl (cI, 64, .inl (AS)))]) [8, 0, 1, 2, 9, 3, 4, 5, 6, 10, 7] (by decide) rfl
              exact pw_iret hx hb hr (rfl) hlocks dX3_all_135 hS hP hD (⟨rfl, rfl⟩)
            · exact absurd c_4 (by omega)
          | succ r ih =>
            intro k hr1 H locs hP hD hS ls hl
            refine lv_iload hx hb dX3_all_89 (lv_at hl 0 rfl) ?_
            refine lv_aload_n hx hb dX3_all_91 rfl (lv_at hl 2 rfl) ?_
            refine va_get (D := D) (ci := 3) (v := .ref z) (C := RX3) (T := TX3) (N := 11) hx hb hts hi_X3_all_3 hown hK.1 hP 0 rfl rfl 1 (by decide) (hts _ hf_X3_all_13) (fun _ h9 => h9) rfl dX3_all_92 ?_
            refine lv_iload_n hx hb dX3_all_95 rfl (lv_at hl 5 rfl) ?_
            refine pw_iald hx hb hK.1 hP 2 0 rfl rfl (by decide) (by omega) dX3_all_96 ?_
            refine pw_top (y := nI (Z j)) (congrArg nI (updN_n _ _ (by omega))) ?_
            refine pw_icmp_ge (tgt := 123) hx hb (by omega) (by omega) dX3_all_97 (by decide) (fun c_5 => ?_) (fun c_5 => ?_)
            · exact absurd c_5 (by omega)
            · have _h := c_5
              refine lv_aload_n hx hb dX3_all_100 rfl (lv_at hl 2 rfl) ?_
              refine lv_iload_n hx hb dX3_all_101 rfl (lv_at hl 3 rfl) ?_
              refine lv_iload hx hb dX3_all_102 (lv_at hl 1 rfl) ?_
              refine lv_iload hx hb dX3_all_104 (lv_at hl 0 rfl) ?_
              refine pw_iadd hx hb dX3_all_106 ?_
              refine lv_aload_n hx hb dX3_all_107 rfl (lv_at hl 2 rfl) ?_
              refine lv_iload_n hx hb dX3_all_108 rfl (lv_at hl 5 rfl) ?_
              refine lv_iload hx hb dX3_all_109 (lv_at hl 0 rfl) ?_
              -- m_thing
              refine pw_cVp (As := [.int (nI j), .int (nI k)]) (rest := [.int (nI (q + k)), .int (nI i), .ref x]) (wc := [(x, .inr (3, [.ref t, .ref z, .int (nI md), .ref rf, .ref rw, .ref pl, .ref hd, .ref ha, .ref lo, .ref ol, .ref as_])), (t, .inl (cI, 192, .inl (flT (upR T i (putF (opn (T i) q k (Z i)) q (T j) k)))))]) ⟨hx, hb, hml, hown, hts⟩ (m_thing l D cI cP cR x t z rf rw pl hd ha lo ol as_ md (upR T i (putF (opn (T i) q k (Z i)) q (T j) k)) j k (by omega) (by omega)) (cwV 2 hts gX3_all_X3_thing rfl rfl rfl (by decide +kernel) ⟨Nat.le_of_ble_eq_true rfl, Nat.le_of_ble_eq_true rfl⟩) hK hP hD [0, 1] rfl (by decide) 0 rfl rfl rfl rfl hl.1 rfl (Nat.le_of_ble_eq_true rfl) dX3_all_111 ⟨Nat.zero_le _, Nat.zero_le _⟩ ?_
              refine pw_top (y := T j k) (congrFun (upR_n _ _ (by omega)) _) ?_
              -- m_open
              refine pw_cVm (As := [.int (nI i), .int (nI (q + k)), .int (T j k)]) (rest := []) (wc := [(x, .inr (3, [.ref t, .ref z, .int (nI md), .ref rf, .ref rw, .ref pl, .ref hd, .ref ha, .ref lo, .ref ol, .ref as_])), (t, .inl (cI, 192, .inl (flT (upR T i (putF (opn (T i) q k (Z i)) q (T j) k))))), (z, .inl (cI, 3, .inl (zI (updN Z i (Z i + k)))))]) (wr := [(rf, .inl (cI, 4, .inl (RF))), (rw, .inl (cI, 4, .inl (R))), (pl, .inl (cI, 4, .inl (P))), (hd, .inl (cI, 4, .inl (Hd))), (ha, .inl (cI, 4, .inl (HA))), (lo, .inl (cI, 4, .inl (Lo))), (ol, .inl (cI, 4, .inl (Ol))), (as_, .inl (cI, 64, .inl (AS)))]) ⟨hx, hb, hml, hown, hts⟩ (m_open l D cI cP cR x t z rf rw pl hd ha lo ol as_ md (upR T i (putF (opn (T i) q k (Z i)) q (T j) k)) (updN Z i (Z i + k)) i (q + k) (T j k) (by omega) (by rw [updN_s]; omega) (by rw [updN_s]; omega)) (cwV 3 hts gX3_all_X3_open rfl rfl rfl (by decide +kernel) ⟨Nat.le_of_ble_eq_true rfl, Nat.le_of_ble_eq_true rfl⟩) hK hP hD hS hA [0, 1, 2] [3, 4, 5, 6, 7, 8, 9, 10] rfl rfl (by decide) (by decide) (by decide) 0 rfl rfl rfl rfl hl.1 rfl (Nat.le_of_ble_eq_true rfl) dX3_all_114 ⟨Nat.zero_le _, Nat.zero_le _⟩ (fun v1 w1 H locs hq hP hD hS => ?_)
              rcases hq with ⟨rfl, rfl⟩
              simp only [upR_u, upR_s, updN_u, updN_s] at hP hD
              rw [allF_s _ _ _ _ _ (by omega)] at hP hD
              have hP : va_P D vwCl ([(rf, .inl (cI, 4, .inl (RF))), (rw, .inl (cI, 4, .inl (R))), (pl, .inl (cI, 4, .inl (P))), (hd, .inl (cI, 4, .inl (Hd))), (ha, .inl (cI, 4, .inl (HA))), (lo, .inl (cI, 4, .inl (Lo))), (ol, .inl (cI, 4, .inl (Ol))), (as_, .inl (cI, 64, .inl (AS))), (x, .inr (3, [.ref t, .ref z, .int (nI md), .ref rf, .ref rw, .ref pl, .ref hd, .ref ha, .ref lo, .ref ol, .ref as_])), (t, .inl (cI, 192, .inl (flT (upR T i (putF (opn (T i) q (k + 1) (Z i)) q (T j) (k + 1)))))), (z, .inl (cI, 3, .inl (zI (updN Z i (Z i + (k + 1))))))]) H := hP
              have hD : va_D A ([(rf, .inl (cI, 4, .inl (RF))), (rw, .inl (cI, 4, .inl (R))), (pl, .inl (cI, 4, .inl (P))), (hd, .inl (cI, 4, .inl (Hd))), (ha, .inl (cI, 4, .inl (HA))), (lo, .inl (cI, 4, .inl (Lo))), (ol, .inl (cI, 4, .inl (Ol))), (as_, .inl (cI, 64, .inl (AS))), (x, .inr (3, [.ref t, .ref z, .int (nI md), .ref rf, .ref rw, .ref pl, .ref hd, .ref ha, .ref lo, .ref ol, .ref as_])), (t, .inl (cI, 192, .inl (flT (upR T i (putF (opn (T i) q (k + 1) (Z i)) q (T j) (k + 1)))))), (z, .inl (cI, 3, .inl (zI (updN Z i (Z i + (k + 1))))))]) := hD
              refine W.eq (g2 := F0 m 117 ls []) rfl ?_
              refine lv_iinc (v := nI (k + 1)) (lv' := [(5, .int (nI (k + 1))), (4, .int (nI q)), (0, .ref x), (1, .int (nI i)), (2, .int (nI q)), (3, .int (nI j))]) hx hb dX3_all_117 hl (k := 0) rfl (pw_inc _ 1) (by decide) rfl (fun ls hl => ?_)
              refine lv_goto (tgt := 89) hx hb dX3_all_120 (by decide) ?_
              have hP := hP.sub (ws' := [(x, .inr (3, [.ref t, .ref z, .int (nI md), .ref rf, .ref rw, .ref pl, .ref hd, .ref ha, .ref lo, .ref ol, .ref as_])), (t, .inl (cI, 192, .inl (flT (upR T i (putF (opn (T i) q (k + 1) (Z i)) q (T j) (k + 1)))))), (z, .inl (cI, 3, .inl (zI (updN Z i (Z i + (k + 1)))))), (rf, .inl (cI, 4, .inl (RF))), (rw, .inl (cI, 4, .inl (R))), (pl, .inl (cI, 4, .inl (P))), (hd, .inl (cI, 4, .inl (Hd))), (ha, .inl (cI, 4, .inl (HA))), (lo, .inl (cI, 4, .inl (Lo))), (ol, .inl (cI, 4, .inl (Ol))), (as_, .inl (cI, 64, .inl (AS)))]) [8, 9, 10, 0, 1, 2, 3, 4, 5, 6, 7] rfl
              have hD := hD.sub (ws' := [(x, .inr (3, [.ref t, .ref z, .int (nI md), .ref rf, .ref rw, .ref pl, .ref hd, .ref ha, .ref lo, .ref ol, .ref as_])), (t, .inl (cI, 192, .inl (flT (upR T i (putF (opn (T i) q (k + 1) (Z i)) q (T j) (k + 1)))))), (z, .inl (cI, 3, .inl (zI (updN Z i (Z i + (k + 1)))))), (rf, .inl (cI, 4, .inl (RF))), (rw, .inl (cI, 4, .inl (R))), (pl, .inl (cI, 4, .inl (P))), (hd, .inl (cI, 4, .inl (Hd))), (ha, .inl (cI, 4, .inl (HA))), (lo, .inl (cI, 4, .inl (Lo))), (ol, .inl (cI, 4, .inl (Ol))), (as_, .inl (cI, 64, .inl (AS)))]) [8, 9, 10, 0, 1, 2, 3, 4, 5, 6, 7] (by decide) rfl
              exact ih (k + 1) (by omega) H locs hP hD hS ls hl
        have e0 : upR T i (putF (opn (T i) q 0 (Z i)) q (T j) 0) = T := by rw [allF_0, upR_i]
        have e1 : updN Z i (Z i + 0) = Z := by rw [Nat.add_zero, updN_i]
        exact loop (Z j) 0 (by omega) s.heap [] (by rw [e0, e1]; exact hP) (by rw [e0, e1]; exact hD) hS ls (lv_sub hl [0, 1, 2, 3, 4, 5] rfl)
      · exact absurd c_3 (pw_nm1 (by omega))
    · exact absurd hf (Nat.not_le.mpr c_2)
  · exact absurd c_1 hzz
theorem hi_X3_leave_3 : ∀ w ∈ u_ws RX3 TX3 11, w ∈ wsX3_leave := by decide +kernel
theorem hf_X3_leave_19 : Cond.fieldLink RX3 19 "PegrowModel" "rowOf" "[I" ∈ wsX3_leave := by decide +kernel
theorem hf_X3_leave_25 : Cond.fieldLink RX3 25 "PegrowModel" "hand" "[I" ∈ wsX3_leave := by decide +kernel
theorem hf_X3_leave_31 : Cond.fieldLink RX3 31 "PegrowModel" "isLost" "[I" ∈ wsX3_leave := by decide +kernel
theorem hf_X3_leave_34 : Cond.fieldLink RX3 34 "PegrowModel" "isOld" "[I" ∈ wsX3_leave := by decide +kernel
set_option maxHeartbeats 4000000 in
set_option maxRecDepth 100000 in
theorem m_leave (l : Launch) (D : va_G) (cI cP cR : ClassId) (x t z rf rw pl hd ha lo ol as_ md : Nat) (R Hd Lo Ol : Nat → Int32) (p : Nat) (hp : p < 4) : pw_Mm l yX3_leave wsX3_leave ({ frames := 0, cells := 0, slots := 0, locals := 0 } : Room) D cI cP cR [.ref x, .int (nI p)] ([(x, .inr (3, [.ref t, .ref z, .int (nI md), .ref rf, .ref rw, .ref pl, .ref hd, .ref ha, .ref lo, .ref ol, .ref as_])), (rw, .inl (cI, 4, .inl (R))), (hd, .inl (cI, 4, .inl (Hd))), (lo, .inl (cI, 4, .inl (Lo))), (ol, .inl (cI, 4, .inl (Ol)))]) (fun v w => v = none ∧ w = [(x, .inr (3, [.ref t, .ref z, .int (nI md), .ref rf, .ref rw, .ref pl, .ref hd, .ref ha, .ref lo, .ref ol, .ref as_])), (rw, .inl (cI, 4, .inl (upd R p (-1)))), (hd, .inl (cI, 4, .inl (upd Hd p (-1)))), (lo, .inl (cI, 4, .inl (upd Lo p (nI 0)))), (ol, .inl (cI, 4, .inl (upd Ol p (nI 0))))]) := by
  refine pw_ofm (cc := cX3_leave) (maxL := 2) (ret := none) (own := RX3) (by decide +kernel) rfl rfl (Nat.le_of_ble_eq_true rfl) ?_
  intro p_ e_ s m bel meth cd A hE hK hP hD hA hS ls hl
  obtain ⟨hx, hb, hr, hml, hown, hts, hlocks⟩ := hE
  have hNW := hK.2
  have hl : lv_has ls 2 [(0, .ref x), (1, .int (nI p))] := hl
  refine lv_aload_n hx hb dX3_leave_0 rfl (lv_at hl 0 rfl) ?_
  refine va_get (D := D) (ci := 3) (v := .ref rw) (C := RX3) (T := TX3) (N := 11) hx hb hts hi_X3_leave_3 hown hK.1 hP 0 rfl rfl 4 (by decide) (hts _ hf_X3_leave_19) (fun _ h9 => h9) rfl dX3_leave_1 ?_
  refine lv_iload_n hx hb dX3_leave_4 rfl (lv_at hl 1 rfl) ?_
  refine lv_iconst (v := -1) hx hb dX3_leave_5 (by decide) ?_
  refine pw_iast hx hb hK.1 hP hD hS 1 0 rfl rfl (by decide) (by omega) dX3_leave_6 (fun H locs hP hD hS => ?_)
  have hP : va_P D vwCl ([(x, .inr (3, [.ref t, .ref z, .int (nI md), .ref rf, .ref rw, .ref pl, .ref hd, .ref ha, .ref lo, .ref ol, .ref as_])), (rw, .inl (cI, 4, .inl (upd R p (-1)))), (hd, .inl (cI, 4, .inl (Hd))), (lo, .inl (cI, 4, .inl (Lo))), (ol, .inl (cI, 4, .inl (Ol)))]) H := hP
  have hD : va_D A ([(x, .inr (3, [.ref t, .ref z, .int (nI md), .ref rf, .ref rw, .ref pl, .ref hd, .ref ha, .ref lo, .ref ol, .ref as_])), (rw, .inl (cI, 4, .inl (upd R p (-1)))), (hd, .inl (cI, 4, .inl (Hd))), (lo, .inl (cI, 4, .inl (Lo))), (ol, .inl (cI, 4, .inl (Ol)))]) := hD
  refine lv_aload_n hx hb dX3_leave_7 rfl (lv_at hl 0 rfl) ?_
  refine va_get (D := D) (ci := 3) (v := .ref hd) (C := RX3) (T := TX3) (N := 11) hx hb hts hi_X3_leave_3 hown hK.1 hP 0 rfl rfl 6 (by decide) (hts _ hf_X3_leave_25) (fun _ h9 => h9) rfl dX3_leave_8 ?_
  refine lv_iload_n hx hb dX3_leave_11 rfl (lv_at hl 1 rfl) ?_
  refine lv_iconst (v := -1) hx hb dX3_leave_12 (by decide) ?_
  refine pw_iast hx hb hK.1 hP hD hS 2 0 rfl rfl (by decide) (by omega) dX3_leave_13 (fun H locs hP hD hS => ?_)
  have hP : va_P D vwCl ([(x, .inr (3, [.ref t, .ref z, .int (nI md), .ref rf, .ref rw, .ref pl, .ref hd, .ref ha, .ref lo, .ref ol, .ref as_])), (rw, .inl (cI, 4, .inl (upd R p (-1)))), (hd, .inl (cI, 4, .inl (upd Hd p (-1)))), (lo, .inl (cI, 4, .inl (Lo))), (ol, .inl (cI, 4, .inl (Ol)))]) H := hP
  have hD : va_D A ([(x, .inr (3, [.ref t, .ref z, .int (nI md), .ref rf, .ref rw, .ref pl, .ref hd, .ref ha, .ref lo, .ref ol, .ref as_])), (rw, .inl (cI, 4, .inl (upd R p (-1)))), (hd, .inl (cI, 4, .inl (upd Hd p (-1)))), (lo, .inl (cI, 4, .inl (Lo))), (ol, .inl (cI, 4, .inl (Ol)))]) := hD
  refine lv_aload_n hx hb dX3_leave_14 rfl (lv_at hl 0 rfl) ?_
  refine va_get (D := D) (ci := 3) (v := .ref lo) (C := RX3) (T := TX3) (N := 11) hx hb hts hi_X3_leave_3 hown hK.1 hP 0 rfl rfl 8 (by decide) (hts _ hf_X3_leave_31) (fun _ h9 => h9) rfl dX3_leave_15 ?_
  refine lv_iload_n hx hb dX3_leave_18 rfl (lv_at hl 1 rfl) ?_
  refine lv_iconst (v := nI 0) hx hb dX3_leave_19 (by decide) ?_
  refine pw_iast hx hb hK.1 hP hD hS 3 0 rfl rfl (by decide) (by omega) dX3_leave_20 (fun H locs hP hD hS => ?_)
  have hP : va_P D vwCl ([(x, .inr (3, [.ref t, .ref z, .int (nI md), .ref rf, .ref rw, .ref pl, .ref hd, .ref ha, .ref lo, .ref ol, .ref as_])), (rw, .inl (cI, 4, .inl (upd R p (-1)))), (hd, .inl (cI, 4, .inl (upd Hd p (-1)))), (lo, .inl (cI, 4, .inl (upd Lo p (nI 0)))), (ol, .inl (cI, 4, .inl (Ol)))]) H := hP
  have hD : va_D A ([(x, .inr (3, [.ref t, .ref z, .int (nI md), .ref rf, .ref rw, .ref pl, .ref hd, .ref ha, .ref lo, .ref ol, .ref as_])), (rw, .inl (cI, 4, .inl (upd R p (-1)))), (hd, .inl (cI, 4, .inl (upd Hd p (-1)))), (lo, .inl (cI, 4, .inl (upd Lo p (nI 0)))), (ol, .inl (cI, 4, .inl (Ol)))]) := hD
  refine lv_aload_n hx hb dX3_leave_21 rfl (lv_at hl 0 rfl) ?_
  refine va_get (D := D) (ci := 3) (v := .ref ol) (C := RX3) (T := TX3) (N := 11) hx hb hts hi_X3_leave_3 hown hK.1 hP 0 rfl rfl 9 (by decide) (hts _ hf_X3_leave_34) (fun _ h9 => h9) rfl dX3_leave_22 ?_
  refine lv_iload_n hx hb dX3_leave_25 rfl (lv_at hl 1 rfl) ?_
  refine lv_iconst (v := nI 0) hx hb dX3_leave_26 (by decide) ?_
  refine pw_iast hx hb hK.1 hP hD hS 4 0 rfl rfl (by decide) (by omega) dX3_leave_27 (fun H locs hP hD hS => ?_)
  have hP : va_P D vwCl ([(x, .inr (3, [.ref t, .ref z, .int (nI md), .ref rf, .ref rw, .ref pl, .ref hd, .ref ha, .ref lo, .ref ol, .ref as_])), (rw, .inl (cI, 4, .inl (upd R p (-1)))), (hd, .inl (cI, 4, .inl (upd Hd p (-1)))), (lo, .inl (cI, 4, .inl (upd Lo p (nI 0)))), (ol, .inl (cI, 4, .inl (upd Ol p (nI 0))))]) H := hP
  have hD : va_D A ([(x, .inr (3, [.ref t, .ref z, .int (nI md), .ref rf, .ref rw, .ref pl, .ref hd, .ref ha, .ref lo, .ref ol, .ref as_])), (rw, .inl (cI, 4, .inl (upd R p (-1)))), (hd, .inl (cI, 4, .inl (upd Hd p (-1)))), (lo, .inl (cI, 4, .inl (upd Lo p (nI 0)))), (ol, .inl (cI, 4, .inl (upd Ol p (nI 0))))]) := hD
  exact pw_vret hx hb hr hlocks dX3_leave_28 hS hP hD (⟨rfl, rfl⟩)
theorem hi_X3_copy_3 : ∀ w ∈ u_ws RX3 TX3 11, w ∈ wsX3_copy := by decide +kernel
theorem hf_X3_copy_7 : Cond.fieldLink RX3 7 "PegrowModel" "things" "[I" ∈ wsX3_copy := by decide +kernel
theorem hf_X3_copy_13 : Cond.fieldLink RX3 13 "PegrowModel" "sizes" "[I" ∈ wsX3_copy := by decide +kernel
theorem hf_X3_copy_19 : Cond.fieldLink RX3 19 "PegrowModel" "rowOf" "[I" ∈ wsX3_copy := by decide +kernel
set_option maxHeartbeats 4000000 in
set_option maxRecDepth 100000 in
theorem n_copy (l : Launch) (D : va_G) (cI cP cR : ClassId) (x t z rf rw pl hd ha lo ol as_ md : Nat) (T : Nat → Nat → Int32) (Z : Nat → Nat) (RF R P Hd HA Lo Ol AS : Nat → Int32) (i j : Nat) (hi : i < 3) (hj : j < 3) (hne : ¬ i = j) (hz : Z i ≤ 60) (hzj : Z j ≤ 60) : pw_Mm l yX3_copy wsX3_copy ({ frames := 3, cells := 0, slots := 0, locals := 65 } : Room) D cI cP cR [.ref x, .int (nI i), .int (nI j)] ([(x, .inr (3, [.ref t, .ref z, .int (nI md), .ref rf, .ref rw, .ref pl, .ref hd, .ref ha, .ref lo, .ref ol, .ref as_])), (t, .inl (cI, 192, .inl (flT T))), (z, .inl (cI, 3, .inl (zI Z))), (rf, .inl (cI, 4, .inl (RF))), (rw, .inl (cI, 4, .inl (R))), (pl, .inl (cI, 4, .inl (P))), (hd, .inl (cI, 4, .inl (Hd))), (ha, .inl (cI, 4, .inl (HA))), (lo, .inl (cI, 4, .inl (Lo))), (ol, .inl (cI, 4, .inl (Ol))), (as_, .inl (cI, 64, .inl (AS)))]) (fun v w => v = some (.int (nI (Z j))) ∧ w = [(x, .inr (3, [.ref t, .ref z, .int (nI md), .ref rf, .ref rw, .ref pl, .ref hd, .ref ha, .ref lo, .ref ol, .ref as_])), (t, .inl (cI, 192, .inl (flT (upR T i (putF (T i) 0 (T j) (Z j)))))), (z, .inl (cI, 3, .inl (zI (updN Z i (Z j))))), (rf, .inl (cI, 4, .inl (RF))), (rw, .inl (cI, 4, .inl (lvK R R (nI i) (-1) 4))), (pl, .inl (cI, 4, .inl (P))), (hd, .inl (cI, 4, .inl (lvK R Hd (nI i) (-1) 4))), (ha, .inl (cI, 4, .inl (HA))), (lo, .inl (cI, 4, .inl (lvK R Lo (nI i) (nI 0) 4))), (ol, .inl (cI, 4, .inl (lvK R Ol (nI i) (nI 0) 4))), (as_, .inl (cI, 64, .inl (AS)))]) := by
  refine pw_ofm (cc := cX3_copy) (maxL := 4) (ret := (some .int)) (own := RX3) (by decide +kernel) rfl rfl (Nat.le_of_ble_eq_true rfl) ?_
  intro p_ e_ s m bel meth cd A hE hK hP hD hA hS ls hl
  obtain ⟨hx, hb, hr, hml, hown, hts, hlocks⟩ := hE
  have hNW := hK.2
  have hl : lv_has ls 4 [(0, .ref x), (1, .int (nI i)), (2, .int (nI j))] := hl
  refine lv_iload_n hx hb dX3_copy_0 rfl (lv_at hl 1 rfl) ?_
  refine lv_iload_n hx hb dX3_copy_1 rfl (lv_at hl 2 rfl) ?_
  -- m_areTwo_t
  refine pw_cSp (As := [.int (nI i), .int (nI j)]) (rest := []) ⟨hx, hb, hml, hown, hts⟩ (m_areTwo_t l D cI cP cR i j (by omega) (by omega) (by omega)) (va_cwS 2 hts gX3_copy_X3_areTwo rfl rfl rfl (by decide +kernel) ⟨Nat.le_of_ble_eq_true rfl, Nat.le_of_ble_eq_true rfl⟩) hK rfl hl.1 rfl (Nat.le_of_ble_eq_true rfl) dX3_copy_2 ⟨Nat.zero_le _, Nat.zero_le _⟩ ?_
  refine lv_if_ne (tgt := 10) hx hb dX3_copy_5 (by decide) (fun c => ?_) (fun c => absurd c (by decide))
  refine lv_iconst (v := nI 0) hx hb dX3_copy_10 (by decide) ?_
  refine lv_istore_n (lv' := [(3, .int (nI 0)), (0, .ref x), (1, .int (nI i)), (2, .int (nI j))]) hx hb dX3_copy_11 rfl hl (by decide) rfl (fun ls hl => ?_)
  have loop : ∀ (r : Nat), ∀ (k : Nat), k + r = 4 → ∀ (H : Heap) (locs : List Loc), va_P D vwCl ([(x, .inr (3, [.ref t, .ref z, .int (nI md), .ref rf, .ref rw, .ref pl, .ref hd, .ref ha, .ref lo, .ref ol, .ref as_])), (t, .inl (cI, 192, .inl (flT T))), (z, .inl (cI, 3, .inl (zI Z))), (rf, .inl (cI, 4, .inl (RF))), (rw, .inl (cI, 4, .inl (lvK R R (nI i) (-1) k))), (pl, .inl (cI, 4, .inl (P))), (hd, .inl (cI, 4, .inl (lvK R Hd (nI i) (-1) k))), (ha, .inl (cI, 4, .inl (HA))), (lo, .inl (cI, 4, .inl (lvK R Lo (nI i) (nI 0) k))), (ol, .inl (cI, 4, .inl (lvK R Ol (nI i) (nI 0) k))), (as_, .inl (cI, 64, .inl (AS)))]) H → va_D A ([(x, .inr (3, [.ref t, .ref z, .int (nI md), .ref rf, .ref rw, .ref pl, .ref hd, .ref ha, .ref lo, .ref ol, .ref as_])), (t, .inl (cI, 192, .inl (flT T))), (z, .inl (cI, 3, .inl (zI Z))), (rf, .inl (cI, 4, .inl (RF))), (rw, .inl (cI, 4, .inl (lvK R R (nI i) (-1) k))), (pl, .inl (cI, 4, .inl (P))), (hd, .inl (cI, 4, .inl (lvK R Hd (nI i) (-1) k))), (ha, .inl (cI, 4, .inl (HA))), (lo, .inl (cI, 4, .inl (lvK R Lo (nI i) (nI 0) k))), (ol, .inl (cI, 4, .inl (lvK R Ol (nI i) (nI 0) k))), (as_, .inl (cI, 64, .inl (AS)))]) → va_S A s.heap H locs → ∀ ls : Array Slot, lv_has ls 4 [(3, .int (nI k)), (0, .ref x), (1, .int (nI i)), (2, .int (nI j))] → W p_ l e_ ({ frames := 3, cells := 0, slots := 0, locals := 65 } : Room) s m [.ref x, .int (nI i), .int (nI j)].toArray bel meth cd H locs 0 0 (MQ bel (pw_Qm (fun v w => v = some (.int (nI (Z j))) ∧ w = [(x, .inr (3, [.ref t, .ref z, .int (nI md), .ref rf, .ref rw, .ref pl, .ref hd, .ref ha, .ref lo, .ref ol, .ref as_])), (t, .inl (cI, 192, .inl (flT (upR T i (putF (T i) 0 (T j) (Z j)))))), (z, .inl (cI, 3, .inl (zI (updN Z i (Z j))))), (rf, .inl (cI, 4, .inl (RF))), (rw, .inl (cI, 4, .inl (lvK R R (nI i) (-1) 4))), (pl, .inl (cI, 4, .inl (P))), (hd, .inl (cI, 4, .inl (lvK R Hd (nI i) (-1) 4))), (ha, .inl (cI, 4, .inl (HA))), (lo, .inl (cI, 4, .inl (lvK R Lo (nI i) (nI 0) 4))), (ol, .inl (cI, 4, .inl (lvK R Ol (nI i) (nI 0) 4))), (as_, .inl (cI, 64, .inl (AS)))]) D A) [.ref x, .int (nI i), .int (nI j)].toArray s 0 0 A) (F0 m 12 ls []) := by
    intro r
    induction r with
    | zero =>
      intro k hr1 H locs hP hD hS ls hl
      obtain rfl : k = 4 := by omega
      refine lv_iload_n hx hb dX3_copy_12 rfl (lv_at hl 0 rfl) ?_
      refine lv_iconst (v := nI 4) hx hb dX3_copy_13 (by decide) ?_
      refine lv_icmp_ge (tgt := 38) hx hb dX3_copy_14 (by decide) (fun c => ?_) (fun c => absurd c (by decide))
      refine lv_aload_n hx hb dX3_copy_38 rfl (lv_at hl 1 rfl) ?_
      refine va_get (D := D) (ci := 3) (v := .ref z) (C := RX3) (T := TX3) (N := 11) hx hb hts hi_X3_copy_3 hown hK.1 hP 0 rfl rfl 1 (by decide) (hts _ hf_X3_copy_13) (fun _ h9 => h9) rfl dX3_copy_39 ?_
      refine lv_iload_n hx hb dX3_copy_42 rfl (lv_at hl 2 rfl) ?_
      refine lv_aload_n hx hb dX3_copy_43 rfl (lv_at hl 1 rfl) ?_
      refine va_get (D := D) (ci := 3) (v := .ref z) (C := RX3) (T := TX3) (N := 11) hx hb hts hi_X3_copy_3 hown hK.1 hP 0 rfl rfl 1 (by decide) (hts _ hf_X3_copy_13) (fun _ h9 => h9) rfl dX3_copy_44 ?_
      refine lv_iload_n hx hb dX3_copy_47 rfl (lv_at hl 3 rfl) ?_
      refine pw_iald hx hb hK.1 hP 2 0 rfl rfl (by decide) (by omega) dX3_copy_48 ?_
      refine pw_top (y := nI (Z j)) rfl ?_
      refine pw_iast hx hb hK.1 hP hD hS 2 0 rfl rfl (by decide) (by omega) dX3_copy_49 (fun H locs hP hD hS => ?_)
      have hP : va_P D vwCl ([(x, .inr (3, [.ref t, .ref z, .int (nI md), .ref rf, .ref rw, .ref pl, .ref hd, .ref ha, .ref lo, .ref ol, .ref as_])), (t, .inl (cI, 192, .inl (flT T))), (z, .inl (cI, 3, .inl (upd (zI Z) i (nI (Z j))))), (rf, .inl (cI, 4, .inl (RF))), (rw, .inl (cI, 4, .inl (lvK R R (nI i) (-1) 4))), (pl, .inl (cI, 4, .inl (P))), (hd, .inl (cI, 4, .inl (lvK R Hd (nI i) (-1) 4))), (ha, .inl (cI, 4, .inl (HA))), (lo, .inl (cI, 4, .inl (lvK R Lo (nI i) (nI 0) 4))), (ol, .inl (cI, 4, .inl (lvK R Ol (nI i) (nI 0) 4))), (as_, .inl (cI, 64, .inl (AS)))]) H := hP
      have hD : va_D A ([(x, .inr (3, [.ref t, .ref z, .int (nI md), .ref rf, .ref rw, .ref pl, .ref hd, .ref ha, .ref lo, .ref ol, .ref as_])), (t, .inl (cI, 192, .inl (flT T))), (z, .inl (cI, 3, .inl (upd (zI Z) i (nI (Z j))))), (rf, .inl (cI, 4, .inl (RF))), (rw, .inl (cI, 4, .inl (lvK R R (nI i) (-1) 4))), (pl, .inl (cI, 4, .inl (P))), (hd, .inl (cI, 4, .inl (lvK R Hd (nI i) (-1) 4))), (ha, .inl (cI, 4, .inl (HA))), (lo, .inl (cI, 4, .inl (lvK R Lo (nI i) (nI 0) 4))), (ol, .inl (cI, 4, .inl (lvK R Ol (nI i) (nI 0) 4))), (as_, .inl (cI, 64, .inl (AS)))]) := hD
      rw [zI_upd] at hP hD
      refine lv_iconst (v := nI 0) hx hb dX3_copy_50 (by decide) ?_
      refine lv_istore_n (lv' := [(3, .int (nI 0)), (0, .ref x), (1, .int (nI i)), (2, .int (nI j))]) hx hb dX3_copy_51 rfl hl (by decide) rfl (fun ls hl => ?_)
      have loop2 : ∀ (r : Nat), ∀ (k : Nat), k + r = Z j → ∀ (H : Heap) (locs : List Loc), va_P D vwCl ([(x, .inr (3, [.ref t, .ref z, .int (nI md), .ref rf, .ref rw, .ref pl, .ref hd, .ref ha, .ref lo, .ref ol, .ref as_])), (t, .inl (cI, 192, .inl (flT (upR T i (putF (T i) 0 (T j) k))))), (z, .inl (cI, 3, .inl (zI (updN Z i (Z j))))), (rf, .inl (cI, 4, .inl (RF))), (rw, .inl (cI, 4, .inl (lvK R R (nI i) (-1) 4))), (pl, .inl (cI, 4, .inl (P))), (hd, .inl (cI, 4, .inl (lvK R Hd (nI i) (-1) 4))), (ha, .inl (cI, 4, .inl (HA))), (lo, .inl (cI, 4, .inl (lvK R Lo (nI i) (nI 0) 4))), (ol, .inl (cI, 4, .inl (lvK R Ol (nI i) (nI 0) 4))), (as_, .inl (cI, 64, .inl (AS)))]) H → va_D A ([(x, .inr (3, [.ref t, .ref z, .int (nI md), .ref rf, .ref rw, .ref pl, .ref hd, .ref ha, .ref lo, .ref ol, .ref as_])), (t, .inl (cI, 192, .inl (flT (upR T i (putF (T i) 0 (T j) k))))), (z, .inl (cI, 3, .inl (zI (updN Z i (Z j))))), (rf, .inl (cI, 4, .inl (RF))), (rw, .inl (cI, 4, .inl (lvK R R (nI i) (-1) 4))), (pl, .inl (cI, 4, .inl (P))), (hd, .inl (cI, 4, .inl (lvK R Hd (nI i) (-1) 4))), (ha, .inl (cI, 4, .inl (HA))), (lo, .inl (cI, 4, .inl (lvK R Lo (nI i) (nI 0) 4))), (ol, .inl (cI, 4, .inl (lvK R Ol (nI i) (nI 0) 4))), (as_, .inl (cI, 64, .inl (AS)))]) → va_S A s.heap H locs → ∀ ls : Array Slot, lv_has ls 4 [(3, .int (nI k)), (0, .ref x), (1, .int (nI i)), (2, .int (nI j))] → W p_ l e_ ({ frames := 3, cells := 0, slots := 0, locals := 65 } : Room) s m [.ref x, .int (nI i), .int (nI j)].toArray bel meth cd H locs 0 0 (MQ bel (pw_Qm (fun v w => v = some (.int (nI (Z j))) ∧ w = [(x, .inr (3, [.ref t, .ref z, .int (nI md), .ref rf, .ref rw, .ref pl, .ref hd, .ref ha, .ref lo, .ref ol, .ref as_])), (t, .inl (cI, 192, .inl (flT (upR T i (putF (T i) 0 (T j) (Z j)))))), (z, .inl (cI, 3, .inl (zI (updN Z i (Z j))))), (rf, .inl (cI, 4, .inl (RF))), (rw, .inl (cI, 4, .inl (lvK R R (nI i) (-1) 4))), (pl, .inl (cI, 4, .inl (P))), (hd, .inl (cI, 4, .inl (lvK R Hd (nI i) (-1) 4))), (ha, .inl (cI, 4, .inl (HA))), (lo, .inl (cI, 4, .inl (lvK R Lo (nI i) (nI 0) 4))), (ol, .inl (cI, 4, .inl (lvK R Ol (nI i) (nI 0) 4))), (as_, .inl (cI, 64, .inl (AS)))]) D A) [.ref x, .int (nI i), .int (nI j)].toArray s 0 0 A) (F0 m 52 ls []) := by
        intro r
        induction r with
        | zero =>
          intro k hr1 H locs hP hD hS ls hl
          obtain rfl : k = Z j := by omega
          refine lv_iload_n hx hb dX3_copy_52 rfl (lv_at hl 0 rfl) ?_
          refine lv_aload_n hx hb dX3_copy_53 rfl (lv_at hl 1 rfl) ?_
          refine va_get (D := D) (ci := 3) (v := .ref z) (C := RX3) (T := TX3) (N := 11) hx hb hts hi_X3_copy_3 hown hK.1 hP 0 rfl rfl 1 (by decide) (hts _ hf_X3_copy_13) (fun _ h9 => h9) rfl dX3_copy_54 ?_
          refine lv_iload_n hx hb dX3_copy_57 rfl (lv_at hl 3 rfl) ?_
          refine pw_iald hx hb hK.1 hP 2 0 rfl rfl (by decide) (by omega) dX3_copy_58 ?_
          refine pw_top (y := nI (Z j)) (congrArg nI (updN_n _ _ (by omega))) ?_
          refine pw_icmp_ge (tgt := 85) hx hb (by omega) (by omega) dX3_copy_59 (by decide) (fun c_1 => ?_) (fun c_1 => ?_)
          · have _h := c_1
            refine lv_aload_n hx hb dX3_copy_85 rfl (lv_at hl 1 rfl) ?_
            refine va_get (D := D) (ci := 3) (v := .ref z) (C := RX3) (T := TX3) (N := 11) hx hb hts hi_X3_copy_3 hown hK.1 hP 0 rfl rfl 1 (by decide) (hts _ hf_X3_copy_13) (fun _ h9 => h9) rfl dX3_copy_86 ?_
            refine lv_iload_n hx hb dX3_copy_89 rfl (lv_at hl 2 rfl) ?_
            refine pw_iald hx hb hK.1 hP 2 0 rfl rfl (by decide) (by omega) dX3_copy_90 ?_
            refine pw_top (y := nI (Z j)) (congrArg nI (updN_s _ _ _)) ?_
            have hP := hP.sub (ws' := [(x, .inr (3, [.ref t, .ref z, .int (nI md), .ref rf, .ref rw, .ref pl, .ref hd, .ref ha, .ref lo, .ref ol, .ref as_])), (t, .inl (cI, 192, .inl (flT (upR T i (putF (T i) 0 (T j) (Z j)))))), (z, .inl (cI, 3, .inl (zI (updN Z i (Z j))))), (rf, .inl (cI, 4, .inl (RF))), (rw, .inl (cI, 4, .inl (lvK R R (nI i) (-1) 4))), (pl, .inl (cI, 4, .inl (P))), (hd, .inl (cI, 4, .inl (lvK R Hd (nI i) (-1) 4))), (ha, .inl (cI, 4, .inl (HA))), (lo, .inl (cI, 4, .inl (lvK R Lo (nI i) (nI 0) 4))), (ol, .inl (cI, 4, .inl (lvK R Ol (nI i) (nI 0) 4))), (as_, .inl (cI, 64, .inl (AS)))]) [0, 1, 2, 3, 4, 5, 6, 7, 8, 9, 10] rfl
            have hD := hD.sub (ws' := [(x, .inr (3, [.ref t, .ref z, .int (nI md), .ref rf, .ref rw, .ref pl, .ref hd, .ref ha, .ref lo, .ref ol, .ref as_])), (t, .inl (cI, 192, .inl (flT (upR T i (putF (T i) 0 (T j) (Z j)))))), (z, .inl (cI, 3, .inl (zI (updN Z i (Z j))))), (rf, .inl (cI, 4, .inl (RF))), (rw, .inl (cI, 4, .inl (lvK R R (nI i) (-1) 4))), (pl, .inl (cI, 4, .inl (P))), (hd, .inl (cI, 4, .inl (lvK R Hd (nI i) (-1) 4))), (ha, .inl (cI, 4, .inl (HA))), (lo, .inl (cI, 4, .inl (lvK R Lo (nI i) (nI 0) 4))), (ol, .inl (cI, 4, .inl (lvK R Ol (nI i) (nI 0) 4))), (as_, .inl (cI, 64, .inl (AS)))]) [0, 1, 2, 3, 4, 5, 6, 7, 8, 9, 10] (by decide) rfl
            exact pw_iret hx hb hr (rfl) hlocks dX3_copy_91 hS hP hD (⟨rfl, rfl⟩)
          · exact absurd c_1 (by omega)
        | succ r ih =>
          intro k hr1 H locs hP hD hS ls hl
          refine lv_iload_n hx hb dX3_copy_52 rfl (lv_at hl 0 rfl) ?_
          refine lv_aload_n hx hb dX3_copy_53 rfl (lv_at hl 1 rfl) ?_
          refine va_get (D := D) (ci := 3) (v := .ref z) (C := RX3) (T := TX3) (N := 11) hx hb hts hi_X3_copy_3 hown hK.1 hP 0 rfl rfl 1 (by decide) (hts _ hf_X3_copy_13) (fun _ h9 => h9) rfl dX3_copy_54 ?_
          refine lv_iload_n hx hb dX3_copy_57 rfl (lv_at hl 3 rfl) ?_
          refine pw_iald hx hb hK.1 hP 2 0 rfl rfl (by decide) (by omega) dX3_copy_58 ?_
          refine pw_top (y := nI (Z j)) (congrArg nI (updN_n _ _ (by omega))) ?_
          refine pw_icmp_ge (tgt := 85) hx hb (by omega) (by omega) dX3_copy_59 (by decide) (fun c_2 => ?_) (fun c_2 => ?_)
          · exact absurd c_2 (by omega)
          · have _h := c_2
            refine lv_aload_n hx hb dX3_copy_62 rfl (lv_at hl 1 rfl) ?_
            refine va_get (D := D) (ci := 3) (v := .ref t) (C := RX3) (T := TX3) (N := 11) hx hb hts hi_X3_copy_3 hown hK.1 hP 0 rfl rfl 0 (by decide) (hts _ hf_X3_copy_7) (fun _ h9 => h9) rfl dX3_copy_63 ?_
            refine lv_bipush (v := nI 64) hx hb dX3_copy_66 (by decide) ?_
            refine lv_iload_n hx hb dX3_copy_68 rfl (lv_at hl 2 rfl) ?_
            refine pw_imul hx hb dX3_copy_69 ?_
            refine lv_iload_n hx hb dX3_copy_70 rfl (lv_at hl 0 rfl) ?_
            refine pw_iadd hx hb dX3_copy_71 ?_
            refine lv_aload_n hx hb dX3_copy_72 rfl (lv_at hl 1 rfl) ?_
            refine lv_iload_n hx hb dX3_copy_73 rfl (lv_at hl 3 rfl) ?_
            refine lv_iload_n hx hb dX3_copy_74 rfl (lv_at hl 0 rfl) ?_
            -- m_thing
            refine pw_cVp (As := [.int (nI j), .int (nI k)]) (rest := [.int (nI ((64 * i) + k)), .ref t]) (wc := [(x, .inr (3, [.ref t, .ref z, .int (nI md), .ref rf, .ref rw, .ref pl, .ref hd, .ref ha, .ref lo, .ref ol, .ref as_])), (t, .inl (cI, 192, .inl (flT (upR T i (putF (T i) 0 (T j) k)))))]) ⟨hx, hb, hml, hown, hts⟩ (m_thing l D cI cP cR x t z rf rw pl hd ha lo ol as_ md (upR T i (putF (T i) 0 (T j) k)) j k (by omega) (by omega)) (cwV 2 hts gX3_copy_X3_thing rfl rfl rfl (by decide +kernel) ⟨Nat.le_of_ble_eq_true rfl, Nat.le_of_ble_eq_true rfl⟩) hK hP hD [0, 1] rfl (by decide) 0 rfl rfl rfl rfl hl.1 rfl (Nat.le_of_ble_eq_true rfl) dX3_copy_75 ⟨Nat.zero_le _, Nat.zero_le _⟩ ?_
            refine pw_top (y := T j k) (congrFun (upR_n _ _ (by omega)) _) ?_
            refine pw_iast hx hb hK.1 hP hD hS 1 0 rfl rfl (by decide) (by omega) dX3_copy_78 (fun H locs hP hD hS => ?_)
            have hP : va_P D vwCl ([(x, .inr (3, [.ref t, .ref z, .int (nI md), .ref rf, .ref rw, .ref pl, .ref hd, .ref ha, .ref lo, .ref ol, .ref as_])), (t, .inl (cI, 192, .inl (upd (flT (upR T i (putF (T i) 0 (T j) k))) ((64 * i) + k) (T j k)))), (z, .inl (cI, 3, .inl (zI (updN Z i (Z j))))), (rf, .inl (cI, 4, .inl (RF))), (rw, .inl (cI, 4, .inl (lvK R R (nI i) (-1) 4))), (pl, .inl (cI, 4, .inl (P))), (hd, .inl (cI, 4, .inl (lvK R Hd (nI i) (-1) 4))), (ha, .inl (cI, 4, .inl (HA))), (lo, .inl (cI, 4, .inl (lvK R Lo (nI i) (nI 0) 4))), (ol, .inl (cI, 4, .inl (lvK R Ol (nI i) (nI 0) 4))), (as_, .inl (cI, 64, .inl (AS)))]) H := hP
            have hD : va_D A ([(x, .inr (3, [.ref t, .ref z, .int (nI md), .ref rf, .ref rw, .ref pl, .ref hd, .ref ha, .ref lo, .ref ol, .ref as_])), (t, .inl (cI, 192, .inl (upd (flT (upR T i (putF (T i) 0 (T j) k))) ((64 * i) + k) (T j k)))), (z, .inl (cI, 3, .inl (zI (updN Z i (Z j))))), (rf, .inl (cI, 4, .inl (RF))), (rw, .inl (cI, 4, .inl (lvK R R (nI i) (-1) 4))), (pl, .inl (cI, 4, .inl (P))), (hd, .inl (cI, 4, .inl (lvK R Hd (nI i) (-1) 4))), (ha, .inl (cI, 4, .inl (HA))), (lo, .inl (cI, 4, .inl (lvK R Lo (nI i) (nI 0) 4))), (ol, .inl (cI, 4, .inl (lvK R Ol (nI i) (nI 0) 4))), (as_, .inl (cI, 64, .inl (AS)))]) := hD
            rw [flT_upd2 _ _ _ _ _ (by omega)] at hP hD
            refine lv_iinc (v := nI (k + 1)) (lv' := [(3, .int (nI (k + 1))), (0, .ref x), (1, .int (nI i)), (2, .int (nI j))]) hx hb dX3_copy_79 hl (k := 0) rfl (pw_inc _ 1) (by decide) rfl (fun ls hl => ?_)
            refine lv_goto (tgt := 52) hx hb dX3_copy_82 (by decide) ?_
            rw [putF_s0] at hP hD
            exact ih (k + 1) (by omega) H locs hP hD hS ls hl
      have e0 : upR T i (putF (T i) 0 (T j) 0) = T := by rw [putF_0, upR_i]
      exact loop2 (Z j) 0 (by omega) H _ (by rw [e0]; exact hP) (by rw [e0]; exact hD) hS ls hl
    | succ r ih =>
      intro k hr1 H locs hP hD hS ls hl
      have hk4 : k < 4 := by omega
      refine lv_iload_n hx hb dX3_copy_12 rfl (lv_at hl 0 rfl) ?_
      refine lv_iconst (v := nI 4) hx hb dX3_copy_13 (by decide) ?_
      refine pw_icmp_ge (tgt := 38) hx hb (by omega) (by omega) dX3_copy_14 (by decide) (fun c_3 => ?_) (fun c_3 => ?_)
      · exact absurd c_3 (by omega)
      · have _h := c_3
        refine lv_aload_n hx hb dX3_copy_17 rfl (lv_at hl 1 rfl) ?_
        refine va_get (D := D) (ci := 3) (v := .ref rw) (C := RX3) (T := TX3) (N := 11) hx hb hts hi_X3_copy_3 hown hK.1 hP 0 rfl rfl 4 (by decide) (hts _ hf_X3_copy_19) (fun _ h9 => h9) rfl dX3_copy_18 ?_
        refine lv_iload_n hx hb dX3_copy_21 rfl (lv_at hl 0 rfl) ?_
        refine pw_iald hx hb hK.1 hP 4 0 rfl rfl (by decide) (by omega) dX3_copy_22 ?_
        refine lv_iload_n hx hb dX3_copy_23 rfl (lv_at hl 2 rfl) ?_
        refine lv_icmp_ne (tgt := 32) hx hb dX3_copy_24 (by decide) (fun c_4 => ?_) (fun c_4 => ?_)
        · have _h := c_4
          refine lv_iinc (v := nI (k + 1)) (lv' := [(3, .int (nI (k + 1))), (0, .ref x), (1, .int (nI i)), (2, .int (nI j))]) hx hb dX3_copy_32 hl (k := 0) rfl (pw_inc _ 1) (by decide) rfl (fun ls hl => ?_)
          refine lv_goto (tgt := 12) hx hb dX3_copy_35 (by decide) ?_
          have hP := hP.sub (ws' := [(x, .inr (3, [.ref t, .ref z, .int (nI md), .ref rf, .ref rw, .ref pl, .ref hd, .ref ha, .ref lo, .ref ol, .ref as_])), (t, .inl (cI, 192, .inl (flT T))), (z, .inl (cI, 3, .inl (zI Z))), (rf, .inl (cI, 4, .inl (RF))), (rw, .inl (cI, 4, .inl (lvK R R (nI i) (-1) k))), (pl, .inl (cI, 4, .inl (P))), (hd, .inl (cI, 4, .inl (lvK R Hd (nI i) (-1) k))), (ha, .inl (cI, 4, .inl (HA))), (lo, .inl (cI, 4, .inl (lvK R Lo (nI i) (nI 0) k))), (ol, .inl (cI, 4, .inl (lvK R Ol (nI i) (nI 0) k))), (as_, .inl (cI, 64, .inl (AS)))]) [0, 1, 2, 3, 4, 5, 6, 7, 8, 9, 10] rfl
          have hD := hD.sub (ws' := [(x, .inr (3, [.ref t, .ref z, .int (nI md), .ref rf, .ref rw, .ref pl, .ref hd, .ref ha, .ref lo, .ref ol, .ref as_])), (t, .inl (cI, 192, .inl (flT T))), (z, .inl (cI, 3, .inl (zI Z))), (rf, .inl (cI, 4, .inl (RF))), (rw, .inl (cI, 4, .inl (lvK R R (nI i) (-1) k))), (pl, .inl (cI, 4, .inl (P))), (hd, .inl (cI, 4, .inl (lvK R Hd (nI i) (-1) k))), (ha, .inl (cI, 4, .inl (HA))), (lo, .inl (cI, 4, .inl (lvK R Lo (nI i) (nI 0) k))), (ol, .inl (cI, 4, .inl (lvK R Ol (nI i) (nI 0) k))), (as_, .inl (cI, 64, .inl (AS)))]) [0, 1, 2, 3, 4, 5, 6, 7, 8, 9, 10] (by decide) rfl
          have hRk : ¬ R k = nI i := by have h := c_4; rw [lvK_k] at h; exact h
          rw [lvK_f R R (nI i) (-1) k hRk, lvK_f R Hd (nI i) (-1) k hRk, lvK_f R Lo (nI i) (nI 0) k hRk, lvK_f R Ol (nI i) (nI 0) k hRk] at hP hD
          exact ih (k + 1) (by omega) H locs hP hD hS ls hl
        · have _h := c_4
          refine lv_aload_n hx hb dX3_copy_27 rfl (lv_at hl 1 rfl) ?_
          refine lv_iload_n hx hb dX3_copy_28 rfl (lv_at hl 0 rfl) ?_
          -- m_leave
          refine pw_cVm (As := [.int (nI k)]) (rest := []) (wc := [(x, .inr (3, [.ref t, .ref z, .int (nI md), .ref rf, .ref rw, .ref pl, .ref hd, .ref ha, .ref lo, .ref ol, .ref as_])), (rw, .inl (cI, 4, .inl (lvK R R (nI i) (-1) k))), (hd, .inl (cI, 4, .inl (lvK R Hd (nI i) (-1) k))), (lo, .inl (cI, 4, .inl (lvK R Lo (nI i) (nI 0) k))), (ol, .inl (cI, 4, .inl (lvK R Ol (nI i) (nI 0) k)))]) (wr := [(t, .inl (cI, 192, .inl (flT T))), (z, .inl (cI, 3, .inl (zI Z))), (rf, .inl (cI, 4, .inl (RF))), (pl, .inl (cI, 4, .inl (P))), (ha, .inl (cI, 4, .inl (HA))), (as_, .inl (cI, 64, .inl (AS)))]) ⟨hx, hb, hml, hown, hts⟩ (m_leave l D cI cP cR x t z rf rw pl hd ha lo ol as_ md (lvK R R (nI i) (-1) k) (lvK R Hd (nI i) (-1) k) (lvK R Lo (nI i) (nI 0) k) (lvK R Ol (nI i) (nI 0) k) k (by omega)) (cwV 1 hts gX3_copy_X3_leave rfl rfl rfl (by decide +kernel) ⟨Nat.le_of_ble_eq_true rfl, Nat.le_of_ble_eq_true rfl⟩) hK hP hD hS hA [0, 4, 6, 8, 9] [1, 2, 3, 5, 7, 10] rfl rfl (by decide) (by decide) (by decide) 0 rfl rfl rfl rfl hl.1 rfl (Nat.le_of_ble_eq_true rfl) dX3_copy_29 ⟨Nat.zero_le _, Nat.zero_le _⟩ (fun v1 w1 H locs hq hP hD hS => ?_)
          rcases hq with ⟨rfl, rfl⟩
          have hP : va_P D vwCl ([(t, .inl (cI, 192, .inl (flT T))), (z, .inl (cI, 3, .inl (zI Z))), (rf, .inl (cI, 4, .inl (RF))), (pl, .inl (cI, 4, .inl (P))), (ha, .inl (cI, 4, .inl (HA))), (as_, .inl (cI, 64, .inl (AS))), (x, .inr (3, [.ref t, .ref z, .int (nI md), .ref rf, .ref rw, .ref pl, .ref hd, .ref ha, .ref lo, .ref ol, .ref as_])), (rw, .inl (cI, 4, .inl (upd (lvK R R (nI i) (-1) k) k (-1)))), (hd, .inl (cI, 4, .inl (upd (lvK R Hd (nI i) (-1) k) k (-1)))), (lo, .inl (cI, 4, .inl (upd (lvK R Lo (nI i) (nI 0) k) k (nI 0)))), (ol, .inl (cI, 4, .inl (upd (lvK R Ol (nI i) (nI 0) k) k (nI 0))))]) H := hP
          have hD : va_D A ([(t, .inl (cI, 192, .inl (flT T))), (z, .inl (cI, 3, .inl (zI Z))), (rf, .inl (cI, 4, .inl (RF))), (pl, .inl (cI, 4, .inl (P))), (ha, .inl (cI, 4, .inl (HA))), (as_, .inl (cI, 64, .inl (AS))), (x, .inr (3, [.ref t, .ref z, .int (nI md), .ref rf, .ref rw, .ref pl, .ref hd, .ref ha, .ref lo, .ref ol, .ref as_])), (rw, .inl (cI, 4, .inl (upd (lvK R R (nI i) (-1) k) k (-1)))), (hd, .inl (cI, 4, .inl (upd (lvK R Hd (nI i) (-1) k) k (-1)))), (lo, .inl (cI, 4, .inl (upd (lvK R Lo (nI i) (nI 0) k) k (nI 0)))), (ol, .inl (cI, 4, .inl (upd (lvK R Ol (nI i) (nI 0) k) k (nI 0))))]) := hD
          refine W.eq (g2 := F0 m 32 ls []) rfl ?_
          refine lv_iinc (v := nI (k + 1)) (lv' := [(3, .int (nI (k + 1))), (0, .ref x), (1, .int (nI i)), (2, .int (nI j))]) hx hb dX3_copy_32 hl (k := 0) rfl (pw_inc _ 1) (by decide) rfl (fun ls hl => ?_)
          refine lv_goto (tgt := 12) hx hb dX3_copy_35 (by decide) ?_
          have hP := hP.sub (ws' := [(x, .inr (3, [.ref t, .ref z, .int (nI md), .ref rf, .ref rw, .ref pl, .ref hd, .ref ha, .ref lo, .ref ol, .ref as_])), (t, .inl (cI, 192, .inl (flT T))), (z, .inl (cI, 3, .inl (zI Z))), (rf, .inl (cI, 4, .inl (RF))), (rw, .inl (cI, 4, .inl (upd (lvK R R (nI i) (-1) k) k (-1)))), (pl, .inl (cI, 4, .inl (P))), (hd, .inl (cI, 4, .inl (upd (lvK R Hd (nI i) (-1) k) k (-1)))), (ha, .inl (cI, 4, .inl (HA))), (lo, .inl (cI, 4, .inl (upd (lvK R Lo (nI i) (nI 0) k) k (nI 0)))), (ol, .inl (cI, 4, .inl (upd (lvK R Ol (nI i) (nI 0) k) k (nI 0)))), (as_, .inl (cI, 64, .inl (AS)))]) [6, 0, 1, 2, 7, 3, 8, 4, 9, 10, 5] rfl
          have hD := hD.sub (ws' := [(x, .inr (3, [.ref t, .ref z, .int (nI md), .ref rf, .ref rw, .ref pl, .ref hd, .ref ha, .ref lo, .ref ol, .ref as_])), (t, .inl (cI, 192, .inl (flT T))), (z, .inl (cI, 3, .inl (zI Z))), (rf, .inl (cI, 4, .inl (RF))), (rw, .inl (cI, 4, .inl (upd (lvK R R (nI i) (-1) k) k (-1)))), (pl, .inl (cI, 4, .inl (P))), (hd, .inl (cI, 4, .inl (upd (lvK R Hd (nI i) (-1) k) k (-1)))), (ha, .inl (cI, 4, .inl (HA))), (lo, .inl (cI, 4, .inl (upd (lvK R Lo (nI i) (nI 0) k) k (nI 0)))), (ol, .inl (cI, 4, .inl (upd (lvK R Ol (nI i) (nI 0) k) k (nI 0)))), (as_, .inl (cI, 64, .inl (AS)))]) [6, 0, 1, 2, 7, 3, 8, 4, 9, 10, 5] (by decide) rfl
          have hRk : R k = nI i := by have h := c_4; rw [lvK_k] at h; exact h
          rw [lvK_t R R (nI i) (-1) k hRk, lvK_t R Hd (nI i) (-1) k hRk, lvK_t R Lo (nI i) (nI 0) k hRk, lvK_t R Ol (nI i) (nI 0) k hRk] at hP hD
          exact ih (k + 1) (by omega) H locs hP hD hS ls hl
  exact loop 4 0 (by omega) s.heap [] (by rw [lvK_0, lvK_0, lvK_0, lvK_0]; exact hP) (by rw [lvK_0, lvK_0, lvK_0, lvK_0]; exact hD) hS ls hl
theorem hi_X3_weave_3 : ∀ w ∈ u_ws RX3 TX3 11, w ∈ wsX3_weave := by decide +kernel
theorem hf_X3_weave_13 : Cond.fieldLink RX3 13 "PegrowModel" "sizes" "[I" ∈ wsX3_weave := by decide +kernel
set_option maxHeartbeats 4000000 in
set_option maxRecDepth 100000 in
theorem n_weave_0 (l : Launch) (D : va_G) (cI cP cR : ClassId) (x t z rf rw pl hd ha lo ol as_ md : Nat) (T : Nat → Nat → Int32) (Z : Nat → Nat) (RF R P Hd HA Lo Ol AS : Nat → Int32) (i j : Nat) (hi : i < 3) (hj : j < 3) (hne : ¬ i = j) (hz : Z i ≤ 60) (hzj : Z j ≤ 60) (hzz : Z j = 0) : pw_Mp l yX3_weave wsX3_weave ({ frames := 3, cells := 0, slots := 0, locals := 65 } : Room) D cI cP cR [.ref x, .int (nI i), .int (nI j)] ([(x, .inr (3, [.ref t, .ref z, .int (nI md), .ref rf, .ref rw, .ref pl, .ref hd, .ref ha, .ref lo, .ref ol, .ref as_])), (t, .inl (cI, 192, .inl (flT T))), (z, .inl (cI, 3, .inl (zI Z))), (rf, .inl (cI, 4, .inl (RF))), (rw, .inl (cI, 4, .inl (R))), (pl, .inl (cI, 4, .inl (P))), (hd, .inl (cI, 4, .inl (Hd))), (ha, .inl (cI, 4, .inl (HA))), (lo, .inl (cI, 4, .inl (Lo))), (ol, .inl (cI, 4, .inl (Ol))), (as_, .inl (cI, 64, .inl (AS)))]) (.int (nI (Z i))) := by
  refine pw_ofp (cc := cX3_weave) (maxL := 7) (ret := (some .int)) (own := RX3) (by decide +kernel) rfl rfl (Nat.le_of_ble_eq_true rfl) ?_
  intro p_ e_ s m bel meth cd hE hK hP hD ls hl
  obtain ⟨hx, hb, hr, hml, hown, hts, hlocks⟩ := hE
  have hNW := hK.2
  have hl : lv_has ls 7 [(0, .ref x), (1, .int (nI i)), (2, .int (nI j))] := hl
  refine lv_iload_n hx hb dX3_weave_0 rfl (lv_at hl 1 rfl) ?_
  refine lv_iload_n hx hb dX3_weave_1 rfl (lv_at hl 2 rfl) ?_
  -- m_areTwo_t
  refine pw_cSp (As := [.int (nI i), .int (nI j)]) (rest := []) ⟨hx, hb, hml, hown, hts⟩ (m_areTwo_t l D cI cP cR i j (by omega) (by omega) (by omega)) (va_cwS 2 hts gX3_weave_X3_areTwo rfl rfl rfl (by decide +kernel) ⟨Nat.le_of_ble_eq_true rfl, Nat.le_of_ble_eq_true rfl⟩) hK rfl hl.1 rfl (Nat.le_of_ble_eq_true rfl) dX3_weave_2 ⟨Nat.zero_le _, Nat.zero_le _⟩ ?_
  refine lv_if_ne (tgt := 10) hx hb dX3_weave_5 (by decide) (fun c => ?_) (fun c => absurd c (by decide))
  refine lv_aload_n hx hb dX3_weave_10 rfl (lv_at hl 0 rfl) ?_
  refine va_get (D := D) (ci := 3) (v := .ref z) (C := RX3) (T := TX3) (N := 11) hx hb hts hi_X3_weave_3 hown hK.1 hP 0 rfl rfl 1 (by decide) (hts _ hf_X3_weave_13) (fun _ h9 => h9) rfl dX3_weave_11 ?_
  refine lv_iload_n hx hb dX3_weave_14 rfl (lv_at hl 1 rfl) ?_
  refine pw_iald hx hb hK.1 hP 2 0 rfl rfl (by decide) (by omega) dX3_weave_15 ?_
  refine pw_top (y := nI (Z i)) rfl ?_
  refine lv_istore_n (lv' := [(3, .int (nI (Z i))), (0, .ref x), (1, .int (nI i)), (2, .int (nI j))]) hx hb dX3_weave_16 rfl hl (by decide) rfl (fun ls hl => ?_)
  refine lv_aload_n hx hb dX3_weave_17 rfl (lv_at hl 1 rfl) ?_
  refine va_get (D := D) (ci := 3) (v := .ref z) (C := RX3) (T := TX3) (N := 11) hx hb hts hi_X3_weave_3 hown hK.1 hP 0 rfl rfl 1 (by decide) (hts _ hf_X3_weave_13) (fun _ h9 => h9) rfl dX3_weave_18 ?_
  refine lv_iload_n hx hb dX3_weave_21 rfl (lv_at hl 3 rfl) ?_
  refine pw_iald hx hb hK.1 hP 2 0 rfl rfl (by decide) (by omega) dX3_weave_22 ?_
  refine pw_top (y := nI (Z j)) rfl ?_
  refine lv_istore (lv' := [(4, .int (nI (Z j))), (3, .int (nI (Z i))), (0, .ref x), (1, .int (nI i)), (2, .int (nI j))]) hx hb dX3_weave_23 hl (by decide) rfl (fun ls hl => ?_)
  refine lv_iload hx hb dX3_weave_25 (lv_at hl 0 rfl) ?_
  refine pw_if_ne (tgt := 32) hx hb (by omega) dX3_weave_27 (by decide) (fun c_1 => ?_) (fun c_1 => ?_)
  · exact absurd hzz c_1
  · have _h := c_1
    refine lv_iload_n hx hb dX3_weave_30 rfl (lv_at hl 1 rfl) ?_
    exact pw_piret hx hb hr (rfl) hlocks dX3_weave_31 (rfl)
set_option maxHeartbeats 4000000 in
set_option maxRecDepth 100000 in
theorem n_weave_f (l : Launch) (D : va_G) (cI cP cR : ClassId) (x t z rf rw pl hd ha lo ol as_ md : Nat) (T : Nat → Nat → Int32) (Z : Nat → Nat) (RF R P Hd HA Lo Ol AS : Nat → Int32) (i j : Nat) (hi : i < 3) (hj : j < 3) (hne : ¬ i = j) (hz : Z i ≤ 60) (hzj : Z j ≤ 60) (hzz : ¬ Z j = 0) (hf : ¬ Z i + Z j ≤ 60) : pw_Mp l yX3_weave wsX3_weave ({ frames := 3, cells := 0, slots := 0, locals := 65 } : Room) D cI cP cR [.ref x, .int (nI i), .int (nI j)] ([(x, .inr (3, [.ref t, .ref z, .int (nI md), .ref rf, .ref rw, .ref pl, .ref hd, .ref ha, .ref lo, .ref ol, .ref as_])), (t, .inl (cI, 192, .inl (flT T))), (z, .inl (cI, 3, .inl (zI Z))), (rf, .inl (cI, 4, .inl (RF))), (rw, .inl (cI, 4, .inl (R))), (pl, .inl (cI, 4, .inl (P))), (hd, .inl (cI, 4, .inl (Hd))), (ha, .inl (cI, 4, .inl (HA))), (lo, .inl (cI, 4, .inl (Lo))), (ol, .inl (cI, 4, .inl (Ol))), (as_, .inl (cI, 64, .inl (AS)))]) (.int (-3)) := by
  refine pw_ofp (cc := cX3_weave) (maxL := 7) (ret := (some .int)) (own := RX3) (by decide +kernel) rfl rfl (Nat.le_of_ble_eq_true rfl) ?_
  intro p_ e_ s m bel meth cd hE hK hP hD ls hl
  obtain ⟨hx, hb, hr, hml, hown, hts, hlocks⟩ := hE
  have hNW := hK.2
  have hl : lv_has ls 7 [(0, .ref x), (1, .int (nI i)), (2, .int (nI j))] := hl
  refine lv_iload_n hx hb dX3_weave_0 rfl (lv_at hl 1 rfl) ?_
  refine lv_iload_n hx hb dX3_weave_1 rfl (lv_at hl 2 rfl) ?_
  -- m_areTwo_t
  refine pw_cSp (As := [.int (nI i), .int (nI j)]) (rest := []) ⟨hx, hb, hml, hown, hts⟩ (m_areTwo_t l D cI cP cR i j (by omega) (by omega) (by omega)) (va_cwS 2 hts gX3_weave_X3_areTwo rfl rfl rfl (by decide +kernel) ⟨Nat.le_of_ble_eq_true rfl, Nat.le_of_ble_eq_true rfl⟩) hK rfl hl.1 rfl (Nat.le_of_ble_eq_true rfl) dX3_weave_2 ⟨Nat.zero_le _, Nat.zero_le _⟩ ?_
  refine lv_if_ne (tgt := 10) hx hb dX3_weave_5 (by decide) (fun c => ?_) (fun c => absurd c (by decide))
  refine lv_aload_n hx hb dX3_weave_10 rfl (lv_at hl 0 rfl) ?_
  refine va_get (D := D) (ci := 3) (v := .ref z) (C := RX3) (T := TX3) (N := 11) hx hb hts hi_X3_weave_3 hown hK.1 hP 0 rfl rfl 1 (by decide) (hts _ hf_X3_weave_13) (fun _ h9 => h9) rfl dX3_weave_11 ?_
  refine lv_iload_n hx hb dX3_weave_14 rfl (lv_at hl 1 rfl) ?_
  refine pw_iald hx hb hK.1 hP 2 0 rfl rfl (by decide) (by omega) dX3_weave_15 ?_
  refine pw_top (y := nI (Z i)) rfl ?_
  refine lv_istore_n (lv' := [(3, .int (nI (Z i))), (0, .ref x), (1, .int (nI i)), (2, .int (nI j))]) hx hb dX3_weave_16 rfl hl (by decide) rfl (fun ls hl => ?_)
  refine lv_aload_n hx hb dX3_weave_17 rfl (lv_at hl 1 rfl) ?_
  refine va_get (D := D) (ci := 3) (v := .ref z) (C := RX3) (T := TX3) (N := 11) hx hb hts hi_X3_weave_3 hown hK.1 hP 0 rfl rfl 1 (by decide) (hts _ hf_X3_weave_13) (fun _ h9 => h9) rfl dX3_weave_18 ?_
  refine lv_iload_n hx hb dX3_weave_21 rfl (lv_at hl 3 rfl) ?_
  refine pw_iald hx hb hK.1 hP 2 0 rfl rfl (by decide) (by omega) dX3_weave_22 ?_
  refine pw_top (y := nI (Z j)) rfl ?_
  refine lv_istore (lv' := [(4, .int (nI (Z j))), (3, .int (nI (Z i))), (0, .ref x), (1, .int (nI i)), (2, .int (nI j))]) hx hb dX3_weave_23 hl (by decide) rfl (fun ls hl => ?_)
  refine lv_iload hx hb dX3_weave_25 (lv_at hl 0 rfl) ?_
  refine pw_if_ne (tgt := 32) hx hb (by omega) dX3_weave_27 (by decide) (fun c_1 => ?_) (fun c_1 => ?_)
  · have _h := c_1
    refine lv_iload_n hx hb dX3_weave_32 rfl (lv_at hl 1 rfl) ?_
    refine lv_iload hx hb dX3_weave_33 (lv_at hl 0 rfl) ?_
    refine pw_iadd hx hb dX3_weave_35 ?_
    refine lv_bipush (v := nI 60) hx hb dX3_weave_36 (by decide) ?_
    refine pw_icmp_le (tgt := 44) hx hb (by omega) (by omega) dX3_weave_38 (by decide) (fun c_2 => ?_) (fun c_2 => ?_)
    · exact absurd c_2 hf
    · have _h := c_2
      refine lv_bipush (v := -3) hx hb dX3_weave_41 (by decide) ?_
      exact pw_piret hx hb hr (rfl) hlocks dX3_weave_43 (rfl)
  · exact absurd c_1 hzz
theorem hf_X3_weave_7 : Cond.fieldLink RX3 7 "PegrowModel" "things" "[I" ∈ wsX3_weave := by decide +kernel
theorem hf_X3_weave_37 : Cond.fieldLink RX3 37 "PegrowModel" "aside" "[I" ∈ wsX3_weave := by decide +kernel
set_option maxHeartbeats 4000000 in
set_option maxRecDepth 100000 in
theorem n_weave (l : Launch) (D : va_G) (cI cP cR : ClassId) (x t z rf rw pl hd ha lo ol as_ md : Nat) (T : Nat → Nat → Int32) (Z : Nat → Nat) (RF R P Hd HA Lo Ol AS : Nat → Int32) (i j : Nat) (hi : i < 3) (hj : j < 3) (hne : ¬ i = j) (hz : Z i ≤ 60) (hzj : Z j ≤ 60) (hzz : ¬ Z j = 0) (hf : Z i + Z j ≤ 60) : pw_Mm l yX3_weave wsX3_weave ({ frames := 3, cells := 0, slots := 0, locals := 65 } : Room) D cI cP cR [.ref x, .int (nI i), .int (nI j)] ([(x, .inr (3, [.ref t, .ref z, .int (nI md), .ref rf, .ref rw, .ref pl, .ref hd, .ref ha, .ref lo, .ref ol, .ref as_])), (t, .inl (cI, 192, .inl (flT T))), (z, .inl (cI, 3, .inl (zI Z))), (rf, .inl (cI, 4, .inl (RF))), (rw, .inl (cI, 4, .inl (R))), (pl, .inl (cI, 4, .inl (P))), (hd, .inl (cI, 4, .inl (Hd))), (ha, .inl (cI, 4, .inl (HA))), (lo, .inl (cI, 4, .inl (Lo))), (ol, .inl (cI, 4, .inl (Ol))), (as_, .inl (cI, 64, .inl (AS)))]) (fun v w => v = some (.int (nI (Z i + Z j))) ∧ w = [(x, .inr (3, [.ref t, .ref z, .int (nI md), .ref rf, .ref rw, .ref pl, .ref hd, .ref ha, .ref lo, .ref ol, .ref as_])), (t, .inl (cI, 192, .inl (flT (upR T i (putF (T i) 0 ((mgF (T i) (T j) (Z i) (Z j) AS (max (Z i) (Z j))).2) (Z i + Z j)))))), (z, .inl (cI, 3, .inl (zI (updN Z i (Z i + Z j))))), (rf, .inl (cI, 4, .inl (RF))), (rw, .inl (cI, 4, .inl (R))), (pl, .inl (cI, 4, .inl (P))), (hd, .inl (cI, 4, .inl (Hd))), (ha, .inl (cI, 4, .inl (HA))), (lo, .inl (cI, 4, .inl (Lo))), (ol, .inl (cI, 4, .inl (agF R Ol (nI i) (-1)))), (as_, .inl (cI, 64, .inl ((mgF (T i) (T j) (Z i) (Z j) AS (max (Z i) (Z j))).2)))]) := by
  refine pw_ofm (cc := cX3_weave) (maxL := 7) (ret := (some .int)) (own := RX3) (by decide +kernel) rfl rfl (Nat.le_of_ble_eq_true rfl) ?_
  intro p_ e_ s m bel meth cd A hE hK hP hD hA hS ls hl
  obtain ⟨hx, hb, hr, hml, hown, hts, hlocks⟩ := hE
  have hNW := hK.2
  have hl : lv_has ls 7 [(0, .ref x), (1, .int (nI i)), (2, .int (nI j))] := hl
  refine lv_iload_n hx hb dX3_weave_0 rfl (lv_at hl 1 rfl) ?_
  refine lv_iload_n hx hb dX3_weave_1 rfl (lv_at hl 2 rfl) ?_
  -- m_areTwo_t
  refine pw_cSp (As := [.int (nI i), .int (nI j)]) (rest := []) ⟨hx, hb, hml, hown, hts⟩ (m_areTwo_t l D cI cP cR i j (by omega) (by omega) (by omega)) (va_cwS 2 hts gX3_weave_X3_areTwo rfl rfl rfl (by decide +kernel) ⟨Nat.le_of_ble_eq_true rfl, Nat.le_of_ble_eq_true rfl⟩) hK rfl hl.1 rfl (Nat.le_of_ble_eq_true rfl) dX3_weave_2 ⟨Nat.zero_le _, Nat.zero_le _⟩ ?_
  refine lv_if_ne (tgt := 10) hx hb dX3_weave_5 (by decide) (fun c => ?_) (fun c => absurd c (by decide))
  refine lv_aload_n hx hb dX3_weave_10 rfl (lv_at hl 0 rfl) ?_
  refine va_get (D := D) (ci := 3) (v := .ref z) (C := RX3) (T := TX3) (N := 11) hx hb hts hi_X3_weave_3 hown hK.1 hP 0 rfl rfl 1 (by decide) (hts _ hf_X3_weave_13) (fun _ h9 => h9) rfl dX3_weave_11 ?_
  refine lv_iload_n hx hb dX3_weave_14 rfl (lv_at hl 1 rfl) ?_
  refine pw_iald hx hb hK.1 hP 2 0 rfl rfl (by decide) (by omega) dX3_weave_15 ?_
  refine pw_top (y := nI (Z i)) rfl ?_
  refine lv_istore_n (lv' := [(3, .int (nI (Z i))), (0, .ref x), (1, .int (nI i)), (2, .int (nI j))]) hx hb dX3_weave_16 rfl hl (by decide) rfl (fun ls hl => ?_)
  refine lv_aload_n hx hb dX3_weave_17 rfl (lv_at hl 1 rfl) ?_
  refine va_get (D := D) (ci := 3) (v := .ref z) (C := RX3) (T := TX3) (N := 11) hx hb hts hi_X3_weave_3 hown hK.1 hP 0 rfl rfl 1 (by decide) (hts _ hf_X3_weave_13) (fun _ h9 => h9) rfl dX3_weave_18 ?_
  refine lv_iload_n hx hb dX3_weave_21 rfl (lv_at hl 3 rfl) ?_
  refine pw_iald hx hb hK.1 hP 2 0 rfl rfl (by decide) (by omega) dX3_weave_22 ?_
  refine pw_top (y := nI (Z j)) rfl ?_
  refine lv_istore (lv' := [(4, .int (nI (Z j))), (3, .int (nI (Z i))), (0, .ref x), (1, .int (nI i)), (2, .int (nI j))]) hx hb dX3_weave_23 hl (by decide) rfl (fun ls hl => ?_)
  refine lv_iload hx hb dX3_weave_25 (lv_at hl 0 rfl) ?_
  refine pw_if_ne (tgt := 32) hx hb (by omega) dX3_weave_27 (by decide) (fun c_1 => ?_) (fun c_1 => ?_)
  · have _h := c_1
    refine lv_iload_n hx hb dX3_weave_32 rfl (lv_at hl 1 rfl) ?_
    refine lv_iload hx hb dX3_weave_33 (lv_at hl 0 rfl) ?_
    refine pw_iadd hx hb dX3_weave_35 ?_
    refine lv_bipush (v := nI 60) hx hb dX3_weave_36 (by decide) ?_
    refine pw_icmp_le (tgt := 44) hx hb (by omega) (by omega) dX3_weave_38 (by decide) (fun c_2 => ?_) (fun c_2 => ?_)
    · have _h := c_2
      refine lv_iconst (v := nI 0) hx hb dX3_weave_44 (by decide) ?_
      refine lv_istore (lv' := [(5, .int (nI 0)), (4, .int (nI (Z j))), (3, .int (nI (Z i))), (0, .ref x), (1, .int (nI i)), (2, .int (nI j))]) hx hb dX3_weave_45 hl (by decide) rfl (fun ls hl => ?_)
      refine lv_iconst (v := nI 0) hx hb dX3_weave_47 (by decide) ?_
      refine lv_istore (lv' := [(6, .int (nI 0)), (5, .int (nI 0)), (4, .int (nI (Z j))), (3, .int (nI (Z i))), (0, .ref x), (1, .int (nI i)), (2, .int (nI j))]) hx hb dX3_weave_48 hl (by decide) rfl (fun ls hl => ?_)
      have loop : ∀ (r : Nat), ∀ (k : Nat), k + r = max (Z i) (Z j) → ∀ (at_ : Nat) (A_ : Nat → Int32), mgF (T i) (T j) (Z i) (Z j) AS k = (at_, A_) → ∀ (H : Heap) (locs : List Loc), va_P D vwCl ([(x, .inr (3, [.ref t, .ref z, .int (nI md), .ref rf, .ref rw, .ref pl, .ref hd, .ref ha, .ref lo, .ref ol, .ref as_])), (t, .inl (cI, 192, .inl (flT T))), (z, .inl (cI, 3, .inl (zI Z))), (rf, .inl (cI, 4, .inl (RF))), (rw, .inl (cI, 4, .inl (R))), (pl, .inl (cI, 4, .inl (P))), (hd, .inl (cI, 4, .inl (Hd))), (ha, .inl (cI, 4, .inl (HA))), (lo, .inl (cI, 4, .inl (Lo))), (ol, .inl (cI, 4, .inl (Ol))), (as_, .inl (cI, 64, .inl (A_)))]) H → va_D A ([(x, .inr (3, [.ref t, .ref z, .int (nI md), .ref rf, .ref rw, .ref pl, .ref hd, .ref ha, .ref lo, .ref ol, .ref as_])), (t, .inl (cI, 192, .inl (flT T))), (z, .inl (cI, 3, .inl (zI Z))), (rf, .inl (cI, 4, .inl (RF))), (rw, .inl (cI, 4, .inl (R))), (pl, .inl (cI, 4, .inl (P))), (hd, .inl (cI, 4, .inl (Hd))), (ha, .inl (cI, 4, .inl (HA))), (lo, .inl (cI, 4, .inl (Lo))), (ol, .inl (cI, 4, .inl (Ol))), (as_, .inl (cI, 64, .inl (A_)))]) → va_S A s.heap H locs → ∀ ls : Array Slot, lv_has ls 7 [(6, .int (nI k)), (5, .int (nI at_)), (4, .int (nI (Z j))), (3, .int (nI (Z i))), (0, .ref x), (1, .int (nI i)), (2, .int (nI j))] → W p_ l e_ ({ frames := 3, cells := 0, slots := 0, locals := 65 } : Room) s m [.ref x, .int (nI i), .int (nI j)].toArray bel meth cd H locs 0 0 (MQ bel (pw_Qm (fun v w => v = some (.int (nI (Z i + Z j))) ∧ w = [(x, .inr (3, [.ref t, .ref z, .int (nI md), .ref rf, .ref rw, .ref pl, .ref hd, .ref ha, .ref lo, .ref ol, .ref as_])), (t, .inl (cI, 192, .inl (flT (upR T i (putF (T i) 0 ((mgF (T i) (T j) (Z i) (Z j) AS (max (Z i) (Z j))).2) (Z i + Z j)))))), (z, .inl (cI, 3, .inl (zI (updN Z i (Z i + Z j))))), (rf, .inl (cI, 4, .inl (RF))), (rw, .inl (cI, 4, .inl (R))), (pl, .inl (cI, 4, .inl (P))), (hd, .inl (cI, 4, .inl (Hd))), (ha, .inl (cI, 4, .inl (HA))), (lo, .inl (cI, 4, .inl (Lo))), (ol, .inl (cI, 4, .inl (agF R Ol (nI i) (-1)))), (as_, .inl (cI, 64, .inl ((mgF (T i) (T j) (Z i) (Z j) AS (max (Z i) (Z j))).2)))]) D A) [.ref x, .int (nI i), .int (nI j)].toArray s 0 0 A) (F0 m 50 ls []) := by
        intro r
        induction r with
        | zero =>
          intro k hr1 at_ A_ hmg H locs hP hD hS ls hl
          obtain rfl : k = max (Z i) (Z j) := by omega
          have hat : at_ = min (max (Z i) (Z j)) (Z i) + min (max (Z i) (Z j)) (Z j) := by have h := mgF_1 (T i) (T j) (Z i) (Z j) AS (max (Z i) (Z j)); rw [hmg] at h; exact h
          obtain rfl : at_ = Z i + Z j := by omega
          refine lv_iload hx hb dX3_weave_50 (lv_at hl 0 rfl) ?_
          refine lv_iload_n hx hb dX3_weave_52 rfl (lv_at hl 3 rfl) ?_
          refine pw_icmp_lt (tgt := 63) hx hb (by omega) (by omega) dX3_weave_53 (by decide) (fun c_3 => ?_) (fun c_3 => ?_)
          · exact absurd c_3 (by omega)
          · have _h := c_3
            refine lv_iload hx hb dX3_weave_56 (lv_at hl 0 rfl) ?_
            refine lv_iload hx hb dX3_weave_58 (lv_at hl 2 rfl) ?_
            refine pw_icmp_ge (tgt := 116) hx hb (by omega) (by omega) dX3_weave_60 (by decide) (fun c_4 => ?_) (fun c_4 => ?_)
            · have _h := c_4
              refine lv_iconst (v := nI 0) hx hb dX3_weave_116 (by decide) ?_
              refine lv_istore (lv' := [(6, .int (nI 0)), (5, .int (nI (Z i + Z j))), (4, .int (nI (Z j))), (3, .int (nI (Z i))), (0, .ref x), (1, .int (nI i)), (2, .int (nI j))]) hx hb dX3_weave_117 hl (by decide) rfl (fun ls hl => ?_)
              have loop2 : ∀ (r : Nat), ∀ (k : Nat), k + r = Z i + Z j → ∀ (H : Heap) (locs : List Loc), va_P D vwCl ([(x, .inr (3, [.ref t, .ref z, .int (nI md), .ref rf, .ref rw, .ref pl, .ref hd, .ref ha, .ref lo, .ref ol, .ref as_])), (t, .inl (cI, 192, .inl (flT (upR T i (putF (T i) 0 A_ k))))), (z, .inl (cI, 3, .inl (zI Z))), (rf, .inl (cI, 4, .inl (RF))), (rw, .inl (cI, 4, .inl (R))), (pl, .inl (cI, 4, .inl (P))), (hd, .inl (cI, 4, .inl (Hd))), (ha, .inl (cI, 4, .inl (HA))), (lo, .inl (cI, 4, .inl (Lo))), (ol, .inl (cI, 4, .inl (Ol))), (as_, .inl (cI, 64, .inl (A_)))]) H → va_D A ([(x, .inr (3, [.ref t, .ref z, .int (nI md), .ref rf, .ref rw, .ref pl, .ref hd, .ref ha, .ref lo, .ref ol, .ref as_])), (t, .inl (cI, 192, .inl (flT (upR T i (putF (T i) 0 A_ k))))), (z, .inl (cI, 3, .inl (zI Z))), (rf, .inl (cI, 4, .inl (RF))), (rw, .inl (cI, 4, .inl (R))), (pl, .inl (cI, 4, .inl (P))), (hd, .inl (cI, 4, .inl (Hd))), (ha, .inl (cI, 4, .inl (HA))), (lo, .inl (cI, 4, .inl (Lo))), (ol, .inl (cI, 4, .inl (Ol))), (as_, .inl (cI, 64, .inl (A_)))]) → va_S A s.heap H locs → ∀ ls : Array Slot, lv_has ls 7 [(6, .int (nI k)), (5, .int (nI (Z i + Z j))), (4, .int (nI (Z j))), (3, .int (nI (Z i))), (0, .ref x), (1, .int (nI i)), (2, .int (nI j))] → W p_ l e_ ({ frames := 3, cells := 0, slots := 0, locals := 65 } : Room) s m [.ref x, .int (nI i), .int (nI j)].toArray bel meth cd H locs 0 0 (MQ bel (pw_Qm (fun v w => v = some (.int (nI (Z i + Z j))) ∧ w = [(x, .inr (3, [.ref t, .ref z, .int (nI md), .ref rf, .ref rw, .ref pl, .ref hd, .ref ha, .ref lo, .ref ol, .ref as_])), (t, .inl (cI, 192, .inl (flT (upR T i (putF (T i) 0 ((mgF (T i) (T j) (Z i) (Z j) AS (max (Z i) (Z j))).2) (Z i + Z j)))))), (z, .inl (cI, 3, .inl (zI (updN Z i (Z i + Z j))))), (rf, .inl (cI, 4, .inl (RF))), (rw, .inl (cI, 4, .inl (R))), (pl, .inl (cI, 4, .inl (P))), (hd, .inl (cI, 4, .inl (Hd))), (ha, .inl (cI, 4, .inl (HA))), (lo, .inl (cI, 4, .inl (Lo))), (ol, .inl (cI, 4, .inl (agF R Ol (nI i) (-1)))), (as_, .inl (cI, 64, .inl ((mgF (T i) (T j) (Z i) (Z j) AS (max (Z i) (Z j))).2)))]) D A) [.ref x, .int (nI i), .int (nI j)].toArray s 0 0 A) (F0 m 119 ls []) := by
                intro r
                induction r with
                | zero =>
                  intro k hr1 H locs hP hD hS ls hl
                  obtain rfl : k = Z i + Z j := by omega
                  refine lv_iload hx hb dX3_weave_119 (lv_at hl 0 rfl) ?_
                  refine lv_iload hx hb dX3_weave_121 (lv_at hl 1 rfl) ?_
                  refine pw_icmp_ge (tgt := 151) hx hb (by omega) (by omega) dX3_weave_123 (by decide) (fun c_5 => ?_) (fun c_5 => ?_)
                  · have _h := c_5
                    refine lv_aload_n hx hb dX3_weave_151 rfl (lv_at hl 4 rfl) ?_
                    refine va_get (D := D) (ci := 3) (v := .ref z) (C := RX3) (T := TX3) (N := 11) hx hb hts hi_X3_weave_3 hown hK.1 hP 0 rfl rfl 1 (by decide) (hts _ hf_X3_weave_13) (fun _ h9 => h9) rfl dX3_weave_152 ?_
                    refine lv_iload_n hx hb dX3_weave_155 rfl (lv_at hl 5 rfl) ?_
                    refine lv_iload hx hb dX3_weave_156 (lv_at hl 1 rfl) ?_
                    refine pw_iast hx hb hK.1 hP hD hS 2 0 rfl rfl (by decide) (by omega) dX3_weave_158 (fun H locs hP hD hS => ?_)
                    have hP : va_P D vwCl ([(x, .inr (3, [.ref t, .ref z, .int (nI md), .ref rf, .ref rw, .ref pl, .ref hd, .ref ha, .ref lo, .ref ol, .ref as_])), (t, .inl (cI, 192, .inl (flT (upR T i (putF (T i) 0 A_ (Z i + Z j)))))), (z, .inl (cI, 3, .inl (upd (zI Z) i (nI (Z i + Z j))))), (rf, .inl (cI, 4, .inl (RF))), (rw, .inl (cI, 4, .inl (R))), (pl, .inl (cI, 4, .inl (P))), (hd, .inl (cI, 4, .inl (Hd))), (ha, .inl (cI, 4, .inl (HA))), (lo, .inl (cI, 4, .inl (Lo))), (ol, .inl (cI, 4, .inl (Ol))), (as_, .inl (cI, 64, .inl (A_)))]) H := hP
                    have hD : va_D A ([(x, .inr (3, [.ref t, .ref z, .int (nI md), .ref rf, .ref rw, .ref pl, .ref hd, .ref ha, .ref lo, .ref ol, .ref as_])), (t, .inl (cI, 192, .inl (flT (upR T i (putF (T i) 0 A_ (Z i + Z j)))))), (z, .inl (cI, 3, .inl (upd (zI Z) i (nI (Z i + Z j))))), (rf, .inl (cI, 4, .inl (RF))), (rw, .inl (cI, 4, .inl (R))), (pl, .inl (cI, 4, .inl (P))), (hd, .inl (cI, 4, .inl (Hd))), (ha, .inl (cI, 4, .inl (HA))), (lo, .inl (cI, 4, .inl (Lo))), (ol, .inl (cI, 4, .inl (Ol))), (as_, .inl (cI, 64, .inl (A_)))]) := hD
                    rw [zI_upd] at hP hD
                    refine lv_aload_n hx hb dX3_weave_159 rfl (lv_at hl 4 rfl) ?_
                    refine lv_iload_n hx hb dX3_weave_160 rfl (lv_at hl 5 rfl) ?_
                    refine lv_iconst (v := -1) hx hb dX3_weave_161 (by decide) ?_
                    -- m_age
                    refine pw_cVm (As := [.int (nI i), .int (-1)]) (rest := []) (wc := [(x, .inr (3, [.ref t, .ref z, .int (nI md), .ref rf, .ref rw, .ref pl, .ref hd, .ref ha, .ref lo, .ref ol, .ref as_])), (rw, .inl (cI, 4, .inl (R))), (ol, .inl (cI, 4, .inl (Ol)))]) (wr := [(t, .inl (cI, 192, .inl (flT (upR T i (putF (T i) 0 A_ (Z i + Z j)))))), (z, .inl (cI, 3, .inl (zI (updN Z i (Z i + Z j))))), (rf, .inl (cI, 4, .inl (RF))), (pl, .inl (cI, 4, .inl (P))), (hd, .inl (cI, 4, .inl (Hd))), (ha, .inl (cI, 4, .inl (HA))), (lo, .inl (cI, 4, .inl (Lo))), (as_, .inl (cI, 64, .inl (A_)))]) ⟨hx, hb, hml, hown, hts⟩ (m_age l D cI cP cR x t z rf rw pl hd ha lo ol as_ md R Ol i (-1)) (cwV 2 hts gX3_weave_X3_age rfl rfl rfl (by decide +kernel) ⟨Nat.le_of_ble_eq_true rfl, Nat.le_of_ble_eq_true rfl⟩) hK hP hD hS hA [0, 4, 9] [1, 2, 3, 5, 6, 7, 8, 10] rfl rfl (by decide) (by decide) (by decide) 0 rfl rfl rfl rfl hl.1 rfl (Nat.le_of_ble_eq_true rfl) dX3_weave_162 ⟨Nat.zero_le _, Nat.zero_le _⟩ (fun v1 w1 H locs hq hP hD hS => ?_)
                    rcases hq with ⟨rfl, rfl⟩
                    have hP : va_P D vwCl ([(t, .inl (cI, 192, .inl (flT (upR T i (putF (T i) 0 A_ (Z i + Z j)))))), (z, .inl (cI, 3, .inl (zI (updN Z i (Z i + Z j))))), (rf, .inl (cI, 4, .inl (RF))), (pl, .inl (cI, 4, .inl (P))), (hd, .inl (cI, 4, .inl (Hd))), (ha, .inl (cI, 4, .inl (HA))), (lo, .inl (cI, 4, .inl (Lo))), (as_, .inl (cI, 64, .inl (A_))), (x, .inr (3, [.ref t, .ref z, .int (nI md), .ref rf, .ref rw, .ref pl, .ref hd, .ref ha, .ref lo, .ref ol, .ref as_])), (rw, .inl (cI, 4, .inl (R))), (ol, .inl (cI, 4, .inl (agF R Ol (nI i) (-1))))]) H := hP
                    have hD : va_D A ([(t, .inl (cI, 192, .inl (flT (upR T i (putF (T i) 0 A_ (Z i + Z j)))))), (z, .inl (cI, 3, .inl (zI (updN Z i (Z i + Z j))))), (rf, .inl (cI, 4, .inl (RF))), (pl, .inl (cI, 4, .inl (P))), (hd, .inl (cI, 4, .inl (Hd))), (ha, .inl (cI, 4, .inl (HA))), (lo, .inl (cI, 4, .inl (Lo))), (as_, .inl (cI, 64, .inl (A_))), (x, .inr (3, [.ref t, .ref z, .int (nI md), .ref rf, .ref rw, .ref pl, .ref hd, .ref ha, .ref lo, .ref ol, .ref as_])), (rw, .inl (cI, 4, .inl (R))), (ol, .inl (cI, 4, .inl (agF R Ol (nI i) (-1))))]) := hD
                    refine W.eq (g2 := F0 m 165 ls []) rfl ?_
                    refine lv_iload hx hb dX3_weave_165 (lv_at hl 1 rfl) ?_
                    have hP := hP.sub (ws' := [(x, .inr (3, [.ref t, .ref z, .int (nI md), .ref rf, .ref rw, .ref pl, .ref hd, .ref ha, .ref lo, .ref ol, .ref as_])), (t, .inl (cI, 192, .inl (flT (upR T i (putF (T i) 0 A_ (Z i + Z j)))))), (z, .inl (cI, 3, .inl (zI (updN Z i (Z i + Z j))))), (rf, .inl (cI, 4, .inl (RF))), (rw, .inl (cI, 4, .inl (R))), (pl, .inl (cI, 4, .inl (P))), (hd, .inl (cI, 4, .inl (Hd))), (ha, .inl (cI, 4, .inl (HA))), (lo, .inl (cI, 4, .inl (Lo))), (ol, .inl (cI, 4, .inl (agF R Ol (nI i) (-1)))), (as_, .inl (cI, 64, .inl (A_)))]) [8, 0, 1, 2, 9, 3, 4, 5, 6, 10, 7] rfl
                    have hD := hD.sub (ws' := [(x, .inr (3, [.ref t, .ref z, .int (nI md), .ref rf, .ref rw, .ref pl, .ref hd, .ref ha, .ref lo, .ref ol, .ref as_])), (t, .inl (cI, 192, .inl (flT (upR T i (putF (T i) 0 A_ (Z i + Z j)))))), (z, .inl (cI, 3, .inl (zI (updN Z i (Z i + Z j))))), (rf, .inl (cI, 4, .inl (RF))), (rw, .inl (cI, 4, .inl (R))), (pl, .inl (cI, 4, .inl (P))), (hd, .inl (cI, 4, .inl (Hd))), (ha, .inl (cI, 4, .inl (HA))), (lo, .inl (cI, 4, .inl (Lo))), (ol, .inl (cI, 4, .inl (agF R Ol (nI i) (-1)))), (as_, .inl (cI, 64, .inl (A_)))]) [8, 0, 1, 2, 9, 3, 4, 5, 6, 10, 7] (by decide) rfl
                    exact pw_iret hx hb hr (rfl) hlocks dX3_weave_167 hS hP hD (⟨rfl, by rw [hmg]⟩)
                  · exact absurd c_5 (by omega)
                | succ r ih =>
                  intro k hr1 H locs hP hD hS ls hl
                  refine lv_iload hx hb dX3_weave_119 (lv_at hl 0 rfl) ?_
                  refine lv_iload hx hb dX3_weave_121 (lv_at hl 1 rfl) ?_
                  refine pw_icmp_ge (tgt := 151) hx hb (by omega) (by omega) dX3_weave_123 (by decide) (fun c_6 => ?_) (fun c_6 => ?_)
                  · exact absurd c_6 (by omega)
                  · have _h := c_6
                    refine lv_aload_n hx hb dX3_weave_126 rfl (lv_at hl 4 rfl) ?_
                    refine va_get (D := D) (ci := 3) (v := .ref t) (C := RX3) (T := TX3) (N := 11) hx hb hts hi_X3_weave_3 hown hK.1 hP 0 rfl rfl 0 (by decide) (hts _ hf_X3_weave_7) (fun _ h9 => h9) rfl dX3_weave_127 ?_
                    refine lv_bipush (v := nI 64) hx hb dX3_weave_130 (by decide) ?_
                    refine lv_iload_n hx hb dX3_weave_132 rfl (lv_at hl 5 rfl) ?_
                    refine pw_imul hx hb dX3_weave_133 ?_
                    refine lv_iload hx hb dX3_weave_134 (lv_at hl 0 rfl) ?_
                    refine pw_iadd hx hb dX3_weave_136 ?_
                    refine lv_aload_n hx hb dX3_weave_137 rfl (lv_at hl 4 rfl) ?_
                    refine va_get (D := D) (ci := 3) (v := .ref as_) (C := RX3) (T := TX3) (N := 11) hx hb hts hi_X3_weave_3 hown hK.1 hP 0 rfl rfl 10 (by decide) (hts _ hf_X3_weave_37) (fun _ h9 => h9) rfl dX3_weave_138 ?_
                    refine lv_iload hx hb dX3_weave_141 (lv_at hl 0 rfl) ?_
                    refine pw_iald hx hb hK.1 hP 10 0 rfl rfl (by decide) (by omega) dX3_weave_143 ?_
                    refine pw_iast hx hb hK.1 hP hD hS 1 0 rfl rfl (by decide) (by omega) dX3_weave_144 (fun H locs hP hD hS => ?_)
                    have hP : va_P D vwCl ([(x, .inr (3, [.ref t, .ref z, .int (nI md), .ref rf, .ref rw, .ref pl, .ref hd, .ref ha, .ref lo, .ref ol, .ref as_])), (t, .inl (cI, 192, .inl (upd (flT (upR T i (putF (T i) 0 A_ k))) ((64 * i) + k) (A_ k)))), (z, .inl (cI, 3, .inl (zI Z))), (rf, .inl (cI, 4, .inl (RF))), (rw, .inl (cI, 4, .inl (R))), (pl, .inl (cI, 4, .inl (P))), (hd, .inl (cI, 4, .inl (Hd))), (ha, .inl (cI, 4, .inl (HA))), (lo, .inl (cI, 4, .inl (Lo))), (ol, .inl (cI, 4, .inl (Ol))), (as_, .inl (cI, 64, .inl (A_)))]) H := hP
                    have hD : va_D A ([(x, .inr (3, [.ref t, .ref z, .int (nI md), .ref rf, .ref rw, .ref pl, .ref hd, .ref ha, .ref lo, .ref ol, .ref as_])), (t, .inl (cI, 192, .inl (upd (flT (upR T i (putF (T i) 0 A_ k))) ((64 * i) + k) (A_ k)))), (z, .inl (cI, 3, .inl (zI Z))), (rf, .inl (cI, 4, .inl (RF))), (rw, .inl (cI, 4, .inl (R))), (pl, .inl (cI, 4, .inl (P))), (hd, .inl (cI, 4, .inl (Hd))), (ha, .inl (cI, 4, .inl (HA))), (lo, .inl (cI, 4, .inl (Lo))), (ol, .inl (cI, 4, .inl (Ol))), (as_, .inl (cI, 64, .inl (A_)))]) := hD
                    rw [flT_upd2 _ _ _ _ _ (by omega)] at hP hD
                    refine lv_iinc (v := nI (k + 1)) (lv' := [(6, .int (nI (k + 1))), (5, .int (nI (Z i + Z j))), (4, .int (nI (Z j))), (3, .int (nI (Z i))), (0, .ref x), (1, .int (nI i)), (2, .int (nI j))]) hx hb dX3_weave_145 hl (k := 0) rfl (pw_inc _ 1) (by decide) rfl (fun ls hl => ?_)
                    refine lv_goto (tgt := 119) hx hb dX3_weave_148 (by decide) ?_
                    rw [putF_s0] at hP hD
                    exact ih (k + 1) (by omega) H locs hP hD hS ls hl
              have e0 : upR T i (putF (T i) 0 A_ 0) = T := by rw [putF_0, upR_i]
              exact loop2 (Z i + Z j) 0 (by omega) H _ (by rw [e0]; exact hP) (by rw [e0]; exact hD) hS ls hl
            · exact absurd c_4 (by omega)
        | succ r ih =>
          intro k hr1 at_ A_ hmg H locs hP hD hS ls hl
          have hat : at_ = min k (Z i) + min k (Z j) := by have h := mgF_1 (T i) (T j) (Z i) (Z j) AS k; rw [hmg] at h; exact h
          refine lv_iload hx hb dX3_weave_50 (lv_at hl 0 rfl) ?_
          refine lv_iload_n hx hb dX3_weave_52 rfl (lv_at hl 3 rfl) ?_
          refine pw_icmp_lt (tgt := 63) hx hb (by omega) (by omega) dX3_weave_53 (by decide) (fun c_7 => ?_) (fun c_7 => ?_)
          · have _h := c_7
            refine lv_iload hx hb dX3_weave_63 (lv_at hl 0 rfl) ?_
            refine lv_iload_n hx hb dX3_weave_65 rfl (lv_at hl 3 rfl) ?_
            refine pw_icmp_ge (tgt := 86) hx hb (by omega) (by omega) dX3_weave_66 (by decide) (fun c_8 => ?_) (fun c_8 => ?_)
            · have _h := c_8
              refine lv_iload hx hb dX3_weave_86 (lv_at hl 0 rfl) ?_
              refine lv_iload hx hb dX3_weave_88 (lv_at hl 2 rfl) ?_
              refine pw_icmp_ge (tgt := 110) hx hb (by omega) (by omega) dX3_weave_90 (by decide) (fun c_9 => ?_) (fun c_9 => ?_)
              · have _h := c_9
                refine lv_iinc (v := nI (k + 1)) (lv' := [(6, .int (nI (k + 1))), (5, .int (nI at_)), (4, .int (nI (Z j))), (3, .int (nI (Z i))), (0, .ref x), (1, .int (nI i)), (2, .int (nI j))]) hx hb dX3_weave_110 hl (k := 0) rfl (pw_inc _ 1) (by decide) rfl (fun ls hl => ?_)
                refine lv_goto (tgt := 50) hx hb dX3_weave_113 (by decide) ?_
                have h1 : ¬ k < Z i := by omega
                have h2 : ¬ k < Z j := by omega
                exact ih (k + 1) (by omega) _ _ (by simp only [mgF, hmg, h1, h2, if_true, if_false]) H locs hP hD hS ls (lv_sub hl [0, 1, 2, 3, 4, 5, 6] rfl)
              · have _h := c_9
                refine lv_aload_n hx hb dX3_weave_93 rfl (lv_at hl 4 rfl) ?_
                refine va_get (D := D) (ci := 3) (v := .ref as_) (C := RX3) (T := TX3) (N := 11) hx hb hts hi_X3_weave_3 hown hK.1 hP 0 rfl rfl 10 (by decide) (hts _ hf_X3_weave_37) (fun _ h9 => h9) rfl dX3_weave_94 ?_
                refine lv_iload hx hb dX3_weave_97 (lv_at hl 1 rfl) ?_
                refine lv_aload_n hx hb dX3_weave_99 rfl (lv_at hl 4 rfl) ?_
                refine lv_iload_n hx hb dX3_weave_100 rfl (lv_at hl 6 rfl) ?_
                refine lv_iload hx hb dX3_weave_101 (lv_at hl 0 rfl) ?_
                -- m_thing
                refine pw_cVp (As := [.int (nI j), .int (nI k)]) (rest := [.int (nI at_), .ref as_]) (wc := [(x, .inr (3, [.ref t, .ref z, .int (nI md), .ref rf, .ref rw, .ref pl, .ref hd, .ref ha, .ref lo, .ref ol, .ref as_])), (t, .inl (cI, 192, .inl (flT T)))]) ⟨hx, hb, hml, hown, hts⟩ (m_thing l D cI cP cR x t z rf rw pl hd ha lo ol as_ md T j k (by omega) (by omega)) (cwV 2 hts gX3_weave_X3_thing rfl rfl rfl (by decide +kernel) ⟨Nat.le_of_ble_eq_true rfl, Nat.le_of_ble_eq_true rfl⟩) hK hP hD [0, 1] rfl (by decide) 0 rfl rfl rfl rfl hl.1 rfl (Nat.le_of_ble_eq_true rfl) dX3_weave_103 ⟨Nat.zero_le _, Nat.zero_le _⟩ ?_
                refine pw_iast hx hb hK.1 hP hD hS 10 0 rfl rfl (by decide) (by omega) dX3_weave_106 (fun H locs hP hD hS => ?_)
                have hP : va_P D vwCl ([(x, .inr (3, [.ref t, .ref z, .int (nI md), .ref rf, .ref rw, .ref pl, .ref hd, .ref ha, .ref lo, .ref ol, .ref as_])), (t, .inl (cI, 192, .inl (flT T))), (z, .inl (cI, 3, .inl (zI Z))), (rf, .inl (cI, 4, .inl (RF))), (rw, .inl (cI, 4, .inl (R))), (pl, .inl (cI, 4, .inl (P))), (hd, .inl (cI, 4, .inl (Hd))), (ha, .inl (cI, 4, .inl (HA))), (lo, .inl (cI, 4, .inl (Lo))), (ol, .inl (cI, 4, .inl (Ol))), (as_, .inl (cI, 64, .inl (upd A_ at_ (T j k))))]) H := hP
                have hD : va_D A ([(x, .inr (3, [.ref t, .ref z, .int (nI md), .ref rf, .ref rw, .ref pl, .ref hd, .ref ha, .ref lo, .ref ol, .ref as_])), (t, .inl (cI, 192, .inl (flT T))), (z, .inl (cI, 3, .inl (zI Z))), (rf, .inl (cI, 4, .inl (RF))), (rw, .inl (cI, 4, .inl (R))), (pl, .inl (cI, 4, .inl (P))), (hd, .inl (cI, 4, .inl (Hd))), (ha, .inl (cI, 4, .inl (HA))), (lo, .inl (cI, 4, .inl (Lo))), (ol, .inl (cI, 4, .inl (Ol))), (as_, .inl (cI, 64, .inl (upd A_ at_ (T j k))))]) := hD
                refine lv_iinc (v := nI (at_ + 1)) (lv' := [(5, .int (nI (at_ + 1))), (6, .int (nI k)), (4, .int (nI (Z j))), (3, .int (nI (Z i))), (0, .ref x), (1, .int (nI i)), (2, .int (nI j))]) hx hb dX3_weave_107 hl (k := 1) rfl (pw_inc _ 1) (by decide) rfl (fun ls hl => ?_)
                refine lv_iinc (v := nI (k + 1)) (lv' := [(6, .int (nI (k + 1))), (5, .int (nI (at_ + 1))), (4, .int (nI (Z j))), (3, .int (nI (Z i))), (0, .ref x), (1, .int (nI i)), (2, .int (nI j))]) hx hb dX3_weave_110 hl (k := 1) rfl (pw_inc _ 1) (by decide) rfl (fun ls hl => ?_)
                refine lv_goto (tgt := 50) hx hb dX3_weave_113 (by decide) ?_
                have h1 : ¬ k < Z i := by omega
                have h2 : k < Z j := by omega
                exact ih (k + 1) (by omega) _ _ (by simp only [mgF, hmg, h1, h2, if_true, if_false]) H locs hP hD hS ls (lv_sub hl [0, 1, 2, 3, 4, 5, 6] rfl)
            · have _h := c_8
              refine lv_aload_n hx hb dX3_weave_69 rfl (lv_at hl 4 rfl) ?_
              refine va_get (D := D) (ci := 3) (v := .ref as_) (C := RX3) (T := TX3) (N := 11) hx hb hts hi_X3_weave_3 hown hK.1 hP 0 rfl rfl 10 (by decide) (hts _ hf_X3_weave_37) (fun _ h9 => h9) rfl dX3_weave_70 ?_
              refine lv_iload hx hb dX3_weave_73 (lv_at hl 1 rfl) ?_
              refine lv_aload_n hx hb dX3_weave_75 rfl (lv_at hl 4 rfl) ?_
              refine lv_iload_n hx hb dX3_weave_76 rfl (lv_at hl 5 rfl) ?_
              refine lv_iload hx hb dX3_weave_77 (lv_at hl 0 rfl) ?_
              -- m_thing
              refine pw_cVp (As := [.int (nI i), .int (nI k)]) (rest := [.int (nI at_), .ref as_]) (wc := [(x, .inr (3, [.ref t, .ref z, .int (nI md), .ref rf, .ref rw, .ref pl, .ref hd, .ref ha, .ref lo, .ref ol, .ref as_])), (t, .inl (cI, 192, .inl (flT T)))]) ⟨hx, hb, hml, hown, hts⟩ (m_thing l D cI cP cR x t z rf rw pl hd ha lo ol as_ md T i k (by omega) (by omega)) (cwV 2 hts gX3_weave_X3_thing rfl rfl rfl (by decide +kernel) ⟨Nat.le_of_ble_eq_true rfl, Nat.le_of_ble_eq_true rfl⟩) hK hP hD [0, 1] rfl (by decide) 0 rfl rfl rfl rfl hl.1 rfl (Nat.le_of_ble_eq_true rfl) dX3_weave_79 ⟨Nat.zero_le _, Nat.zero_le _⟩ ?_
              refine pw_iast hx hb hK.1 hP hD hS 10 0 rfl rfl (by decide) (by omega) dX3_weave_82 (fun H locs hP hD hS => ?_)
              have hP : va_P D vwCl ([(x, .inr (3, [.ref t, .ref z, .int (nI md), .ref rf, .ref rw, .ref pl, .ref hd, .ref ha, .ref lo, .ref ol, .ref as_])), (t, .inl (cI, 192, .inl (flT T))), (z, .inl (cI, 3, .inl (zI Z))), (rf, .inl (cI, 4, .inl (RF))), (rw, .inl (cI, 4, .inl (R))), (pl, .inl (cI, 4, .inl (P))), (hd, .inl (cI, 4, .inl (Hd))), (ha, .inl (cI, 4, .inl (HA))), (lo, .inl (cI, 4, .inl (Lo))), (ol, .inl (cI, 4, .inl (Ol))), (as_, .inl (cI, 64, .inl (upd A_ at_ (T i k))))]) H := hP
              have hD : va_D A ([(x, .inr (3, [.ref t, .ref z, .int (nI md), .ref rf, .ref rw, .ref pl, .ref hd, .ref ha, .ref lo, .ref ol, .ref as_])), (t, .inl (cI, 192, .inl (flT T))), (z, .inl (cI, 3, .inl (zI Z))), (rf, .inl (cI, 4, .inl (RF))), (rw, .inl (cI, 4, .inl (R))), (pl, .inl (cI, 4, .inl (P))), (hd, .inl (cI, 4, .inl (Hd))), (ha, .inl (cI, 4, .inl (HA))), (lo, .inl (cI, 4, .inl (Lo))), (ol, .inl (cI, 4, .inl (Ol))), (as_, .inl (cI, 64, .inl (upd A_ at_ (T i k))))]) := hD
              refine lv_iinc (v := nI (at_ + 1)) (lv' := [(5, .int (nI (at_ + 1))), (6, .int (nI k)), (4, .int (nI (Z j))), (3, .int (nI (Z i))), (0, .ref x), (1, .int (nI i)), (2, .int (nI j))]) hx hb dX3_weave_83 hl (k := 1) rfl (pw_inc _ 1) (by decide) rfl (fun ls hl => ?_)
              refine lv_iload hx hb dX3_weave_86 (lv_at hl 1 rfl) ?_
              refine lv_iload hx hb dX3_weave_88 (lv_at hl 2 rfl) ?_
              refine pw_icmp_ge (tgt := 110) hx hb (by omega) (by omega) dX3_weave_90 (by decide) (fun c_10 => ?_) (fun c_10 => ?_)
              · have _h := c_10
                refine lv_iinc (v := nI (k + 1)) (lv' := [(6, .int (nI (k + 1))), (5, .int (nI (at_ + 1))), (4, .int (nI (Z j))), (3, .int (nI (Z i))), (0, .ref x), (1, .int (nI i)), (2, .int (nI j))]) hx hb dX3_weave_110 hl (k := 1) rfl (pw_inc _ 1) (by decide) rfl (fun ls hl => ?_)
                refine lv_goto (tgt := 50) hx hb dX3_weave_113 (by decide) ?_
                have h1 : k < Z i := by omega
                have h2 : ¬ k < Z j := by omega
                exact ih (k + 1) (by omega) _ _ (by simp only [mgF, hmg, h1, h2, if_true, if_false]) H locs hP hD hS ls (lv_sub hl [0, 1, 2, 3, 4, 5, 6] rfl)
              · have _h := c_10
                refine lv_aload_n hx hb dX3_weave_93 rfl (lv_at hl 4 rfl) ?_
                refine va_get (D := D) (ci := 3) (v := .ref as_) (C := RX3) (T := TX3) (N := 11) hx hb hts hi_X3_weave_3 hown hK.1 hP 0 rfl rfl 10 (by decide) (hts _ hf_X3_weave_37) (fun _ h9 => h9) rfl dX3_weave_94 ?_
                refine lv_iload hx hb dX3_weave_97 (lv_at hl 0 rfl) ?_
                refine lv_aload_n hx hb dX3_weave_99 rfl (lv_at hl 4 rfl) ?_
                refine lv_iload_n hx hb dX3_weave_100 rfl (lv_at hl 6 rfl) ?_
                refine lv_iload hx hb dX3_weave_101 (lv_at hl 1 rfl) ?_
                -- m_thing
                refine pw_cVp (As := [.int (nI j), .int (nI k)]) (rest := [.int (nI (at_ + 1)), .ref as_]) (wc := [(x, .inr (3, [.ref t, .ref z, .int (nI md), .ref rf, .ref rw, .ref pl, .ref hd, .ref ha, .ref lo, .ref ol, .ref as_])), (t, .inl (cI, 192, .inl (flT T)))]) ⟨hx, hb, hml, hown, hts⟩ (m_thing l D cI cP cR x t z rf rw pl hd ha lo ol as_ md T j k (by omega) (by omega)) (cwV 2 hts gX3_weave_X3_thing rfl rfl rfl (by decide +kernel) ⟨Nat.le_of_ble_eq_true rfl, Nat.le_of_ble_eq_true rfl⟩) hK hP hD [0, 1] rfl (by decide) 0 rfl rfl rfl rfl hl.1 rfl (Nat.le_of_ble_eq_true rfl) dX3_weave_103 ⟨Nat.zero_le _, Nat.zero_le _⟩ ?_
                refine pw_iast hx hb hK.1 hP hD hS 10 0 rfl rfl (by decide) (by omega) dX3_weave_106 (fun H locs hP hD hS => ?_)
                have hP : va_P D vwCl ([(x, .inr (3, [.ref t, .ref z, .int (nI md), .ref rf, .ref rw, .ref pl, .ref hd, .ref ha, .ref lo, .ref ol, .ref as_])), (t, .inl (cI, 192, .inl (flT T))), (z, .inl (cI, 3, .inl (zI Z))), (rf, .inl (cI, 4, .inl (RF))), (rw, .inl (cI, 4, .inl (R))), (pl, .inl (cI, 4, .inl (P))), (hd, .inl (cI, 4, .inl (Hd))), (ha, .inl (cI, 4, .inl (HA))), (lo, .inl (cI, 4, .inl (Lo))), (ol, .inl (cI, 4, .inl (Ol))), (as_, .inl (cI, 64, .inl (upd (upd A_ at_ (T i k)) (at_ + 1) (T j k))))]) H := hP
                have hD : va_D A ([(x, .inr (3, [.ref t, .ref z, .int (nI md), .ref rf, .ref rw, .ref pl, .ref hd, .ref ha, .ref lo, .ref ol, .ref as_])), (t, .inl (cI, 192, .inl (flT T))), (z, .inl (cI, 3, .inl (zI Z))), (rf, .inl (cI, 4, .inl (RF))), (rw, .inl (cI, 4, .inl (R))), (pl, .inl (cI, 4, .inl (P))), (hd, .inl (cI, 4, .inl (Hd))), (ha, .inl (cI, 4, .inl (HA))), (lo, .inl (cI, 4, .inl (Lo))), (ol, .inl (cI, 4, .inl (Ol))), (as_, .inl (cI, 64, .inl (upd (upd A_ at_ (T i k)) (at_ + 1) (T j k))))]) := hD
                refine lv_iinc (v := nI (at_ + 1 + 1)) (lv' := [(5, .int (nI (at_ + 1 + 1))), (6, .int (nI k)), (4, .int (nI (Z j))), (3, .int (nI (Z i))), (0, .ref x), (1, .int (nI i)), (2, .int (nI j))]) hx hb dX3_weave_107 hl (k := 0) rfl (pw_inc _ 1) (by decide) rfl (fun ls hl => ?_)
                refine lv_iinc (v := nI (k + 1)) (lv' := [(6, .int (nI (k + 1))), (5, .int (nI (at_ + 1 + 1))), (4, .int (nI (Z j))), (3, .int (nI (Z i))), (0, .ref x), (1, .int (nI i)), (2, .int (nI j))]) hx hb dX3_weave_110 hl (k := 1) rfl (pw_inc _ 1) (by decide) rfl (fun ls hl => ?_)
                refine lv_goto (tgt := 50) hx hb dX3_weave_113 (by decide) ?_
                have h1 : k < Z i := by omega
                have h2 : k < Z j := by omega
                exact ih (k + 1) (by omega) _ _ (by simp only [mgF, hmg, h1, h2, if_true, if_false]) H locs hP hD hS ls (lv_sub hl [0, 1, 2, 3, 4, 5, 6] rfl)
          · have _h := c_7
            refine lv_iload hx hb dX3_weave_56 (lv_at hl 0 rfl) ?_
            refine lv_iload hx hb dX3_weave_58 (lv_at hl 2 rfl) ?_
            refine pw_icmp_ge (tgt := 116) hx hb (by omega) (by omega) dX3_weave_60 (by decide) (fun c_11 => ?_) (fun c_11 => ?_)
            · exact absurd c_11 (by omega)
            · have _h := c_11
              refine lv_iload hx hb dX3_weave_63 (lv_at hl 0 rfl) ?_
              refine lv_iload_n hx hb dX3_weave_65 rfl (lv_at hl 3 rfl) ?_
              refine pw_icmp_ge (tgt := 86) hx hb (by omega) (by omega) dX3_weave_66 (by decide) (fun c_12 => ?_) (fun c_12 => ?_)
              · have _h := c_12
                refine lv_iload hx hb dX3_weave_86 (lv_at hl 0 rfl) ?_
                refine lv_iload hx hb dX3_weave_88 (lv_at hl 2 rfl) ?_
                refine pw_icmp_ge (tgt := 110) hx hb (by omega) (by omega) dX3_weave_90 (by decide) (fun c_13 => ?_) (fun c_13 => ?_)
                · have _h := c_13
                  refine lv_iinc (v := nI (k + 1)) (lv' := [(6, .int (nI (k + 1))), (5, .int (nI at_)), (4, .int (nI (Z j))), (3, .int (nI (Z i))), (0, .ref x), (1, .int (nI i)), (2, .int (nI j))]) hx hb dX3_weave_110 hl (k := 0) rfl (pw_inc _ 1) (by decide) rfl (fun ls hl => ?_)
                  refine lv_goto (tgt := 50) hx hb dX3_weave_113 (by decide) ?_
                  have h1 : ¬ k < Z i := by omega
                  have h2 : ¬ k < Z j := by omega
                  exact ih (k + 1) (by omega) _ _ (by simp only [mgF, hmg, h1, h2, if_true, if_false]) H locs hP hD hS ls (lv_sub hl [0, 1, 2, 3, 4, 5, 6] rfl)
                · have _h := c_13
                  refine lv_aload_n hx hb dX3_weave_93 rfl (lv_at hl 4 rfl) ?_
                  refine va_get (D := D) (ci := 3) (v := .ref as_) (C := RX3) (T := TX3) (N := 11) hx hb hts hi_X3_weave_3 hown hK.1 hP 0 rfl rfl 10 (by decide) (hts _ hf_X3_weave_37) (fun _ h9 => h9) rfl dX3_weave_94 ?_
                  refine lv_iload hx hb dX3_weave_97 (lv_at hl 1 rfl) ?_
                  refine lv_aload_n hx hb dX3_weave_99 rfl (lv_at hl 4 rfl) ?_
                  refine lv_iload_n hx hb dX3_weave_100 rfl (lv_at hl 6 rfl) ?_
                  refine lv_iload hx hb dX3_weave_101 (lv_at hl 0 rfl) ?_
                  -- m_thing
                  refine pw_cVp (As := [.int (nI j), .int (nI k)]) (rest := [.int (nI at_), .ref as_]) (wc := [(x, .inr (3, [.ref t, .ref z, .int (nI md), .ref rf, .ref rw, .ref pl, .ref hd, .ref ha, .ref lo, .ref ol, .ref as_])), (t, .inl (cI, 192, .inl (flT T)))]) ⟨hx, hb, hml, hown, hts⟩ (m_thing l D cI cP cR x t z rf rw pl hd ha lo ol as_ md T j k (by omega) (by omega)) (cwV 2 hts gX3_weave_X3_thing rfl rfl rfl (by decide +kernel) ⟨Nat.le_of_ble_eq_true rfl, Nat.le_of_ble_eq_true rfl⟩) hK hP hD [0, 1] rfl (by decide) 0 rfl rfl rfl rfl hl.1 rfl (Nat.le_of_ble_eq_true rfl) dX3_weave_103 ⟨Nat.zero_le _, Nat.zero_le _⟩ ?_
                  refine pw_iast hx hb hK.1 hP hD hS 10 0 rfl rfl (by decide) (by omega) dX3_weave_106 (fun H locs hP hD hS => ?_)
                  have hP : va_P D vwCl ([(x, .inr (3, [.ref t, .ref z, .int (nI md), .ref rf, .ref rw, .ref pl, .ref hd, .ref ha, .ref lo, .ref ol, .ref as_])), (t, .inl (cI, 192, .inl (flT T))), (z, .inl (cI, 3, .inl (zI Z))), (rf, .inl (cI, 4, .inl (RF))), (rw, .inl (cI, 4, .inl (R))), (pl, .inl (cI, 4, .inl (P))), (hd, .inl (cI, 4, .inl (Hd))), (ha, .inl (cI, 4, .inl (HA))), (lo, .inl (cI, 4, .inl (Lo))), (ol, .inl (cI, 4, .inl (Ol))), (as_, .inl (cI, 64, .inl (upd A_ at_ (T j k))))]) H := hP
                  have hD : va_D A ([(x, .inr (3, [.ref t, .ref z, .int (nI md), .ref rf, .ref rw, .ref pl, .ref hd, .ref ha, .ref lo, .ref ol, .ref as_])), (t, .inl (cI, 192, .inl (flT T))), (z, .inl (cI, 3, .inl (zI Z))), (rf, .inl (cI, 4, .inl (RF))), (rw, .inl (cI, 4, .inl (R))), (pl, .inl (cI, 4, .inl (P))), (hd, .inl (cI, 4, .inl (Hd))), (ha, .inl (cI, 4, .inl (HA))), (lo, .inl (cI, 4, .inl (Lo))), (ol, .inl (cI, 4, .inl (Ol))), (as_, .inl (cI, 64, .inl (upd A_ at_ (T j k))))]) := hD
                  refine lv_iinc (v := nI (at_ + 1)) (lv' := [(5, .int (nI (at_ + 1))), (6, .int (nI k)), (4, .int (nI (Z j))), (3, .int (nI (Z i))), (0, .ref x), (1, .int (nI i)), (2, .int (nI j))]) hx hb dX3_weave_107 hl (k := 1) rfl (pw_inc _ 1) (by decide) rfl (fun ls hl => ?_)
                  refine lv_iinc (v := nI (k + 1)) (lv' := [(6, .int (nI (k + 1))), (5, .int (nI (at_ + 1))), (4, .int (nI (Z j))), (3, .int (nI (Z i))), (0, .ref x), (1, .int (nI i)), (2, .int (nI j))]) hx hb dX3_weave_110 hl (k := 1) rfl (pw_inc _ 1) (by decide) rfl (fun ls hl => ?_)
                  refine lv_goto (tgt := 50) hx hb dX3_weave_113 (by decide) ?_
                  have h1 : ¬ k < Z i := by omega
                  have h2 : k < Z j := by omega
                  exact ih (k + 1) (by omega) _ _ (by simp only [mgF, hmg, h1, h2, if_true, if_false]) H locs hP hD hS ls (lv_sub hl [0, 1, 2, 3, 4, 5, 6] rfl)
              · have _h := c_12
                refine lv_aload_n hx hb dX3_weave_69 rfl (lv_at hl 4 rfl) ?_
                refine va_get (D := D) (ci := 3) (v := .ref as_) (C := RX3) (T := TX3) (N := 11) hx hb hts hi_X3_weave_3 hown hK.1 hP 0 rfl rfl 10 (by decide) (hts _ hf_X3_weave_37) (fun _ h9 => h9) rfl dX3_weave_70 ?_
                refine lv_iload hx hb dX3_weave_73 (lv_at hl 1 rfl) ?_
                refine lv_aload_n hx hb dX3_weave_75 rfl (lv_at hl 4 rfl) ?_
                refine lv_iload_n hx hb dX3_weave_76 rfl (lv_at hl 5 rfl) ?_
                refine lv_iload hx hb dX3_weave_77 (lv_at hl 0 rfl) ?_
                -- m_thing
                refine pw_cVp (As := [.int (nI i), .int (nI k)]) (rest := [.int (nI at_), .ref as_]) (wc := [(x, .inr (3, [.ref t, .ref z, .int (nI md), .ref rf, .ref rw, .ref pl, .ref hd, .ref ha, .ref lo, .ref ol, .ref as_])), (t, .inl (cI, 192, .inl (flT T)))]) ⟨hx, hb, hml, hown, hts⟩ (m_thing l D cI cP cR x t z rf rw pl hd ha lo ol as_ md T i k (by omega) (by omega)) (cwV 2 hts gX3_weave_X3_thing rfl rfl rfl (by decide +kernel) ⟨Nat.le_of_ble_eq_true rfl, Nat.le_of_ble_eq_true rfl⟩) hK hP hD [0, 1] rfl (by decide) 0 rfl rfl rfl rfl hl.1 rfl (Nat.le_of_ble_eq_true rfl) dX3_weave_79 ⟨Nat.zero_le _, Nat.zero_le _⟩ ?_
                refine pw_iast hx hb hK.1 hP hD hS 10 0 rfl rfl (by decide) (by omega) dX3_weave_82 (fun H locs hP hD hS => ?_)
                have hP : va_P D vwCl ([(x, .inr (3, [.ref t, .ref z, .int (nI md), .ref rf, .ref rw, .ref pl, .ref hd, .ref ha, .ref lo, .ref ol, .ref as_])), (t, .inl (cI, 192, .inl (flT T))), (z, .inl (cI, 3, .inl (zI Z))), (rf, .inl (cI, 4, .inl (RF))), (rw, .inl (cI, 4, .inl (R))), (pl, .inl (cI, 4, .inl (P))), (hd, .inl (cI, 4, .inl (Hd))), (ha, .inl (cI, 4, .inl (HA))), (lo, .inl (cI, 4, .inl (Lo))), (ol, .inl (cI, 4, .inl (Ol))), (as_, .inl (cI, 64, .inl (upd A_ at_ (T i k))))]) H := hP
                have hD : va_D A ([(x, .inr (3, [.ref t, .ref z, .int (nI md), .ref rf, .ref rw, .ref pl, .ref hd, .ref ha, .ref lo, .ref ol, .ref as_])), (t, .inl (cI, 192, .inl (flT T))), (z, .inl (cI, 3, .inl (zI Z))), (rf, .inl (cI, 4, .inl (RF))), (rw, .inl (cI, 4, .inl (R))), (pl, .inl (cI, 4, .inl (P))), (hd, .inl (cI, 4, .inl (Hd))), (ha, .inl (cI, 4, .inl (HA))), (lo, .inl (cI, 4, .inl (Lo))), (ol, .inl (cI, 4, .inl (Ol))), (as_, .inl (cI, 64, .inl (upd A_ at_ (T i k))))]) := hD
                refine lv_iinc (v := nI (at_ + 1)) (lv' := [(5, .int (nI (at_ + 1))), (6, .int (nI k)), (4, .int (nI (Z j))), (3, .int (nI (Z i))), (0, .ref x), (1, .int (nI i)), (2, .int (nI j))]) hx hb dX3_weave_83 hl (k := 1) rfl (pw_inc _ 1) (by decide) rfl (fun ls hl => ?_)
                refine lv_iload hx hb dX3_weave_86 (lv_at hl 1 rfl) ?_
                refine lv_iload hx hb dX3_weave_88 (lv_at hl 2 rfl) ?_
                refine pw_icmp_ge (tgt := 110) hx hb (by omega) (by omega) dX3_weave_90 (by decide) (fun c_14 => ?_) (fun c_14 => ?_)
                · have _h := c_14
                  refine lv_iinc (v := nI (k + 1)) (lv' := [(6, .int (nI (k + 1))), (5, .int (nI (at_ + 1))), (4, .int (nI (Z j))), (3, .int (nI (Z i))), (0, .ref x), (1, .int (nI i)), (2, .int (nI j))]) hx hb dX3_weave_110 hl (k := 1) rfl (pw_inc _ 1) (by decide) rfl (fun ls hl => ?_)
                  refine lv_goto (tgt := 50) hx hb dX3_weave_113 (by decide) ?_
                  have h1 : k < Z i := by omega
                  have h2 : ¬ k < Z j := by omega
                  exact ih (k + 1) (by omega) _ _ (by simp only [mgF, hmg, h1, h2, if_true, if_false]) H locs hP hD hS ls (lv_sub hl [0, 1, 2, 3, 4, 5, 6] rfl)
                · have _h := c_14
                  refine lv_aload_n hx hb dX3_weave_93 rfl (lv_at hl 4 rfl) ?_
                  refine va_get (D := D) (ci := 3) (v := .ref as_) (C := RX3) (T := TX3) (N := 11) hx hb hts hi_X3_weave_3 hown hK.1 hP 0 rfl rfl 10 (by decide) (hts _ hf_X3_weave_37) (fun _ h9 => h9) rfl dX3_weave_94 ?_
                  refine lv_iload hx hb dX3_weave_97 (lv_at hl 0 rfl) ?_
                  refine lv_aload_n hx hb dX3_weave_99 rfl (lv_at hl 4 rfl) ?_
                  refine lv_iload_n hx hb dX3_weave_100 rfl (lv_at hl 6 rfl) ?_
                  refine lv_iload hx hb dX3_weave_101 (lv_at hl 1 rfl) ?_
                  -- m_thing
                  refine pw_cVp (As := [.int (nI j), .int (nI k)]) (rest := [.int (nI (at_ + 1)), .ref as_]) (wc := [(x, .inr (3, [.ref t, .ref z, .int (nI md), .ref rf, .ref rw, .ref pl, .ref hd, .ref ha, .ref lo, .ref ol, .ref as_])), (t, .inl (cI, 192, .inl (flT T)))]) ⟨hx, hb, hml, hown, hts⟩ (m_thing l D cI cP cR x t z rf rw pl hd ha lo ol as_ md T j k (by omega) (by omega)) (cwV 2 hts gX3_weave_X3_thing rfl rfl rfl (by decide +kernel) ⟨Nat.le_of_ble_eq_true rfl, Nat.le_of_ble_eq_true rfl⟩) hK hP hD [0, 1] rfl (by decide) 0 rfl rfl rfl rfl hl.1 rfl (Nat.le_of_ble_eq_true rfl) dX3_weave_103 ⟨Nat.zero_le _, Nat.zero_le _⟩ ?_
                  refine pw_iast hx hb hK.1 hP hD hS 10 0 rfl rfl (by decide) (by omega) dX3_weave_106 (fun H locs hP hD hS => ?_)
                  have hP : va_P D vwCl ([(x, .inr (3, [.ref t, .ref z, .int (nI md), .ref rf, .ref rw, .ref pl, .ref hd, .ref ha, .ref lo, .ref ol, .ref as_])), (t, .inl (cI, 192, .inl (flT T))), (z, .inl (cI, 3, .inl (zI Z))), (rf, .inl (cI, 4, .inl (RF))), (rw, .inl (cI, 4, .inl (R))), (pl, .inl (cI, 4, .inl (P))), (hd, .inl (cI, 4, .inl (Hd))), (ha, .inl (cI, 4, .inl (HA))), (lo, .inl (cI, 4, .inl (Lo))), (ol, .inl (cI, 4, .inl (Ol))), (as_, .inl (cI, 64, .inl (upd (upd A_ at_ (T i k)) (at_ + 1) (T j k))))]) H := hP
                  have hD : va_D A ([(x, .inr (3, [.ref t, .ref z, .int (nI md), .ref rf, .ref rw, .ref pl, .ref hd, .ref ha, .ref lo, .ref ol, .ref as_])), (t, .inl (cI, 192, .inl (flT T))), (z, .inl (cI, 3, .inl (zI Z))), (rf, .inl (cI, 4, .inl (RF))), (rw, .inl (cI, 4, .inl (R))), (pl, .inl (cI, 4, .inl (P))), (hd, .inl (cI, 4, .inl (Hd))), (ha, .inl (cI, 4, .inl (HA))), (lo, .inl (cI, 4, .inl (Lo))), (ol, .inl (cI, 4, .inl (Ol))), (as_, .inl (cI, 64, .inl (upd (upd A_ at_ (T i k)) (at_ + 1) (T j k))))]) := hD
                  refine lv_iinc (v := nI (at_ + 1 + 1)) (lv' := [(5, .int (nI (at_ + 1 + 1))), (6, .int (nI k)), (4, .int (nI (Z j))), (3, .int (nI (Z i))), (0, .ref x), (1, .int (nI i)), (2, .int (nI j))]) hx hb dX3_weave_107 hl (k := 0) rfl (pw_inc _ 1) (by decide) rfl (fun ls hl => ?_)
                  refine lv_iinc (v := nI (k + 1)) (lv' := [(6, .int (nI (k + 1))), (5, .int (nI (at_ + 1 + 1))), (4, .int (nI (Z j))), (3, .int (nI (Z i))), (0, .ref x), (1, .int (nI i)), (2, .int (nI j))]) hx hb dX3_weave_110 hl (k := 1) rfl (pw_inc _ 1) (by decide) rfl (fun ls hl => ?_)
                  refine lv_goto (tgt := 50) hx hb dX3_weave_113 (by decide) ?_
                  have h1 : k < Z i := by omega
                  have h2 : k < Z j := by omega
                  exact ih (k + 1) (by omega) _ _ (by simp only [mgF, hmg, h1, h2, if_true, if_false]) H locs hP hD hS ls (lv_sub hl [0, 1, 2, 3, 4, 5, 6] rfl)
      exact loop (max (Z i) (Z j)) 0 (by omega) 0 AS rfl s.heap [] hP hD hS ls hl
    · exact absurd hf (Nat.not_le.mpr c_2)
  · exact absurd c_1 hzz
theorem hi_X3_prune_3 : ∀ w ∈ u_ws RX3 TX3 11, w ∈ wsX3_prune := by decide +kernel
theorem hf_X3_prune_7 : Cond.fieldLink RX3 7 "PegrowModel" "things" "[I" ∈ wsX3_prune := by decide +kernel
theorem hf_X3_prune_13 : Cond.fieldLink RX3 13 "PegrowModel" "sizes" "[I" ∈ wsX3_prune := by decide +kernel
set_option maxHeartbeats 4000000 in
set_option maxRecDepth 100000 in
theorem n_prune_0 (l : Launch) (D : va_G) (cI cP cR : ClassId) (x t z rf rw pl hd ha lo ol as_ md : Nat) (T : Nat → Nat → Int32) (Z : Nat → Nat) (RF R P Hd HA Lo Ol AS : Nat → Int32) (i : Nat) (hi : i < 3) (hz : Z i ≤ 60) (hk : (prF (T i) (Z i)).1 = Z i) : pw_Mm l yX3_prune wsX3_prune ({ frames := 2, cells := 0, slots := 0, locals := 47 } : Room) D cI cP cR [.ref x, .int (nI i)] ([(x, .inr (3, [.ref t, .ref z, .int (nI md), .ref rf, .ref rw, .ref pl, .ref hd, .ref ha, .ref lo, .ref ol, .ref as_])), (t, .inl (cI, 192, .inl (flT T))), (z, .inl (cI, 3, .inl (zI Z))), (rf, .inl (cI, 4, .inl (RF))), (rw, .inl (cI, 4, .inl (R))), (pl, .inl (cI, 4, .inl (P))), (hd, .inl (cI, 4, .inl (Hd))), (ha, .inl (cI, 4, .inl (HA))), (lo, .inl (cI, 4, .inl (Lo))), (ol, .inl (cI, 4, .inl (Ol))), (as_, .inl (cI, 64, .inl (AS)))]) (fun v w => v = some (.int (nI (Z i - (prF (T i) (Z i)).1))) ∧ w = [(x, .inr (3, [.ref t, .ref z, .int (nI md), .ref rf, .ref rw, .ref pl, .ref hd, .ref ha, .ref lo, .ref ol, .ref as_])), (t, .inl (cI, 192, .inl (flT (upR T i ((prF (T i) (Z i)).2.2))))), (z, .inl (cI, 3, .inl (zI (updN Z i ((prF (T i) (Z i)).1))))), (rf, .inl (cI, 4, .inl (RF))), (rw, .inl (cI, 4, .inl (R))), (pl, .inl (cI, 4, .inl (P))), (hd, .inl (cI, 4, .inl (Hd))), (ha, .inl (cI, 4, .inl (HA))), (lo, .inl (cI, 4, .inl (Lo))), (ol, .inl (cI, 4, .inl (Ol))), (as_, .inl (cI, 64, .inl (AS)))]) := by
  refine pw_ofm (cc := cX3_prune) (maxL := 6) (ret := (some .int)) (own := RX3) (by decide +kernel) rfl rfl (Nat.le_of_ble_eq_true rfl) ?_
  intro p_ e_ s m bel meth cd A hE hK hP hD hA hS ls hl
  obtain ⟨hx, hb, hr, hml, hown, hts, hlocks⟩ := hE
  have hNW := hK.2
  have hl : lv_has ls 6 [(0, .ref x), (1, .int (nI i))] := hl
  refine lv_iload_n hx hb dX3_prune_0 rfl (lv_at hl 1 rfl) ?_
  -- m_isRow_t
  refine pw_cSp (As := [.int (nI i)]) (rest := []) ⟨hx, hb, hml, hown, hts⟩ (m_isRow_t l D cI cP cR i (by omega)) (va_cwS 1 hts gX3_prune_X3_isRow rfl rfl rfl (by decide +kernel) ⟨Nat.le_of_ble_eq_true rfl, Nat.le_of_ble_eq_true rfl⟩) hK rfl hl.1 rfl (Nat.le_of_ble_eq_true rfl) dX3_prune_1 ⟨Nat.zero_le _, Nat.zero_le _⟩ ?_
  refine lv_if_ne (tgt := 9) hx hb dX3_prune_4 (by decide) (fun c => ?_) (fun c => absurd c (by decide))
  refine lv_iconst (v := nI 0) hx hb dX3_prune_9 (by decide) ?_
  refine lv_istore_n (lv' := [(2, .int (nI 0)), (0, .ref x), (1, .int (nI i))]) hx hb dX3_prune_10 rfl hl (by decide) rfl (fun ls hl => ?_)
  refine lv_iconst (v := nI 0) hx hb dX3_prune_11 (by decide) ?_
  refine lv_istore_n (lv' := [(3, .int (nI 0)), (2, .int (nI 0)), (0, .ref x), (1, .int (nI i))]) hx hb dX3_prune_12 rfl hl (by decide) rfl (fun ls hl => ?_)
  refine lv_iconst (v := nI 0) hx hb dX3_prune_13 (by decide) ?_
  refine lv_istore (lv' := [(4, .int (nI 0)), (3, .int (nI 0)), (2, .int (nI 0)), (0, .ref x), (1, .int (nI i))]) hx hb dX3_prune_14 hl (by decide) rfl (fun ls hl => ?_)
  have loop : ∀ (r : Nat), ∀ (j : Nat), j + r = Z i → ∀ (kp : Nat) (ms : Int32) (F : Nat → Int32), prF (T i) j = (kp, ms, F) → ∀ (H : Heap) (locs : List Loc), va_P D vwCl ([(x, .inr (3, [.ref t, .ref z, .int (nI md), .ref rf, .ref rw, .ref pl, .ref hd, .ref ha, .ref lo, .ref ol, .ref as_])), (t, .inl (cI, 192, .inl (flT (upR T i (F))))), (z, .inl (cI, 3, .inl (zI Z))), (rf, .inl (cI, 4, .inl (RF))), (rw, .inl (cI, 4, .inl (R))), (pl, .inl (cI, 4, .inl (P))), (hd, .inl (cI, 4, .inl (Hd))), (ha, .inl (cI, 4, .inl (HA))), (lo, .inl (cI, 4, .inl (Lo))), (ol, .inl (cI, 4, .inl (Ol))), (as_, .inl (cI, 64, .inl (AS)))]) H → va_D A ([(x, .inr (3, [.ref t, .ref z, .int (nI md), .ref rf, .ref rw, .ref pl, .ref hd, .ref ha, .ref lo, .ref ol, .ref as_])), (t, .inl (cI, 192, .inl (flT (upR T i (F))))), (z, .inl (cI, 3, .inl (zI Z))), (rf, .inl (cI, 4, .inl (RF))), (rw, .inl (cI, 4, .inl (R))), (pl, .inl (cI, 4, .inl (P))), (hd, .inl (cI, 4, .inl (Hd))), (ha, .inl (cI, 4, .inl (HA))), (lo, .inl (cI, 4, .inl (Lo))), (ol, .inl (cI, 4, .inl (Ol))), (as_, .inl (cI, 64, .inl (AS)))]) → va_S A s.heap H locs → ∀ ls : Array Slot, lv_has ls 6 [(4, .int (nI j)), (3, .int (nI kp)), (2, .int (ms)), (0, .ref x), (1, .int (nI i))] → W p_ l e_ ({ frames := 2, cells := 0, slots := 0, locals := 47 } : Room) s m [.ref x, .int (nI i)].toArray bel meth cd H locs 0 0 (MQ bel (pw_Qm (fun v w => v = some (.int (nI (Z i - (prF (T i) (Z i)).1))) ∧ w = [(x, .inr (3, [.ref t, .ref z, .int (nI md), .ref rf, .ref rw, .ref pl, .ref hd, .ref ha, .ref lo, .ref ol, .ref as_])), (t, .inl (cI, 192, .inl (flT (upR T i ((prF (T i) (Z i)).2.2))))), (z, .inl (cI, 3, .inl (zI (updN Z i ((prF (T i) (Z i)).1))))), (rf, .inl (cI, 4, .inl (RF))), (rw, .inl (cI, 4, .inl (R))), (pl, .inl (cI, 4, .inl (P))), (hd, .inl (cI, 4, .inl (Hd))), (ha, .inl (cI, 4, .inl (HA))), (lo, .inl (cI, 4, .inl (Lo))), (ol, .inl (cI, 4, .inl (Ol))), (as_, .inl (cI, 64, .inl (AS)))]) D A) [.ref x, .int (nI i)].toArray s 0 0 A) (F0 m 16 ls []) := by
    intro r
    induction r with
    | zero =>
      intro j hr1 kp ms F hpr H locs hP hD hS ls hl
      obtain rfl : j = Z i := by omega
      have hkp : kp ≤ Z i := by have h := (prF_le (T i) (Z i)).1; rw [hpr] at h; exact h
      have hk2 := hk
      rw [hpr] at hk2
      simp only at hk2
      refine lv_iload hx hb dX3_prune_16 (lv_at hl 0 rfl) ?_
      refine lv_aload_n hx hb dX3_prune_18 rfl (lv_at hl 3 rfl) ?_
      refine va_get (D := D) (ci := 3) (v := .ref z) (C := RX3) (T := TX3) (N := 11) hx hb hts hi_X3_prune_3 hown hK.1 hP 0 rfl rfl 1 (by decide) (hts _ hf_X3_prune_13) (fun _ h9 => h9) rfl dX3_prune_19 ?_
      refine lv_iload_n hx hb dX3_prune_22 rfl (lv_at hl 4 rfl) ?_
      refine pw_iald hx hb hK.1 hP 2 0 rfl rfl (by decide) (by omega) dX3_prune_23 ?_
      refine pw_top (y := nI (Z i)) rfl ?_
      refine pw_icmp_ge (tgt := 80) hx hb (by omega) (by omega) dX3_prune_24 (by decide) (fun c_1 => ?_) (fun c_1 => ?_)
      · have _h := c_1
        refine lv_aload_n hx hb dX3_prune_80 rfl (lv_at hl 3 rfl) ?_
        refine va_get (D := D) (ci := 3) (v := .ref z) (C := RX3) (T := TX3) (N := 11) hx hb hts hi_X3_prune_3 hown hK.1 hP 0 rfl rfl 1 (by decide) (hts _ hf_X3_prune_13) (fun _ h9 => h9) rfl dX3_prune_81 ?_
        refine lv_iload_n hx hb dX3_prune_84 rfl (lv_at hl 4 rfl) ?_
        refine pw_iald hx hb hK.1 hP 2 0 rfl rfl (by decide) (by omega) dX3_prune_85 ?_
        refine pw_top (y := nI (Z i)) rfl ?_
        refine lv_iload_n hx hb dX3_prune_86 rfl (lv_at hl 1 rfl) ?_
        refine pw_isub hx hb (by omega) dX3_prune_87 ?_
        refine lv_istore (lv' := [(4, .int (nI ((Z i) - kp))), (3, .int (nI kp)), (2, .int (ms)), (0, .ref x), (1, .int (nI i))]) hx hb dX3_prune_88 hl (by decide) rfl (fun ls hl => ?_)
        refine lv_aload_n hx hb dX3_prune_90 rfl (lv_at hl 3 rfl) ?_
        refine va_get (D := D) (ci := 3) (v := .ref z) (C := RX3) (T := TX3) (N := 11) hx hb hts hi_X3_prune_3 hown hK.1 hP 0 rfl rfl 1 (by decide) (hts _ hf_X3_prune_13) (fun _ h9 => h9) rfl dX3_prune_91 ?_
        refine lv_iload_n hx hb dX3_prune_94 rfl (lv_at hl 4 rfl) ?_
        refine lv_iload_n hx hb dX3_prune_95 rfl (lv_at hl 1 rfl) ?_
        refine pw_iast hx hb hK.1 hP hD hS 2 0 rfl rfl (by decide) (by omega) dX3_prune_96 (fun H locs hP hD hS => ?_)
        have hP : va_P D vwCl ([(x, .inr (3, [.ref t, .ref z, .int (nI md), .ref rf, .ref rw, .ref pl, .ref hd, .ref ha, .ref lo, .ref ol, .ref as_])), (t, .inl (cI, 192, .inl (flT (upR T i (F))))), (z, .inl (cI, 3, .inl (upd (zI Z) i (nI kp)))), (rf, .inl (cI, 4, .inl (RF))), (rw, .inl (cI, 4, .inl (R))), (pl, .inl (cI, 4, .inl (P))), (hd, .inl (cI, 4, .inl (Hd))), (ha, .inl (cI, 4, .inl (HA))), (lo, .inl (cI, 4, .inl (Lo))), (ol, .inl (cI, 4, .inl (Ol))), (as_, .inl (cI, 64, .inl (AS)))]) H := hP
        have hD : va_D A ([(x, .inr (3, [.ref t, .ref z, .int (nI md), .ref rf, .ref rw, .ref pl, .ref hd, .ref ha, .ref lo, .ref ol, .ref as_])), (t, .inl (cI, 192, .inl (flT (upR T i (F))))), (z, .inl (cI, 3, .inl (upd (zI Z) i (nI kp)))), (rf, .inl (cI, 4, .inl (RF))), (rw, .inl (cI, 4, .inl (R))), (pl, .inl (cI, 4, .inl (P))), (hd, .inl (cI, 4, .inl (Hd))), (ha, .inl (cI, 4, .inl (HA))), (lo, .inl (cI, 4, .inl (Lo))), (ol, .inl (cI, 4, .inl (Ol))), (as_, .inl (cI, 64, .inl (AS)))]) := hD
        rw [zI_upd] at hP hD
        refine lv_iload hx hb dX3_prune_97 (lv_at hl 0 rfl) ?_
        refine pw_if_le (tgt := 108) hx hb (by omega) dX3_prune_99 (by decide) (fun c_2 => ?_) (fun c_2 => ?_)
        · have _h := c_2
          refine lv_iload hx hb dX3_prune_108 (lv_at hl 0 rfl) ?_
          have hP := hP.sub (ws' := [(x, .inr (3, [.ref t, .ref z, .int (nI md), .ref rf, .ref rw, .ref pl, .ref hd, .ref ha, .ref lo, .ref ol, .ref as_])), (t, .inl (cI, 192, .inl (flT (upR T i (F))))), (z, .inl (cI, 3, .inl (zI (updN Z i kp)))), (rf, .inl (cI, 4, .inl (RF))), (rw, .inl (cI, 4, .inl (R))), (pl, .inl (cI, 4, .inl (P))), (hd, .inl (cI, 4, .inl (Hd))), (ha, .inl (cI, 4, .inl (HA))), (lo, .inl (cI, 4, .inl (Lo))), (ol, .inl (cI, 4, .inl (Ol))), (as_, .inl (cI, 64, .inl (AS)))]) [0, 1, 2, 3, 4, 5, 6, 7, 8, 9, 10] rfl
          have hD := hD.sub (ws' := [(x, .inr (3, [.ref t, .ref z, .int (nI md), .ref rf, .ref rw, .ref pl, .ref hd, .ref ha, .ref lo, .ref ol, .ref as_])), (t, .inl (cI, 192, .inl (flT (upR T i (F))))), (z, .inl (cI, 3, .inl (zI (updN Z i kp)))), (rf, .inl (cI, 4, .inl (RF))), (rw, .inl (cI, 4, .inl (R))), (pl, .inl (cI, 4, .inl (P))), (hd, .inl (cI, 4, .inl (Hd))), (ha, .inl (cI, 4, .inl (HA))), (lo, .inl (cI, 4, .inl (Lo))), (ol, .inl (cI, 4, .inl (Ol))), (as_, .inl (cI, 64, .inl (AS)))]) [0, 1, 2, 3, 4, 5, 6, 7, 8, 9, 10] (by decide) rfl
          exact pw_iret hx hb hr (rfl) hlocks dX3_prune_110 hS hP hD (⟨by rw [hpr], by rw [hpr]⟩)
        · exact absurd c_2 (by omega)
      · exact absurd c_1 (by omega)
    | succ r ih =>
      intro j hr1 kp ms F hpr H locs hP hD hS ls hl
      have hkp : kp ≤ j := by have h := (prF_le (T i) (j)).1; rw [hpr] at h; exact h
      have eF : F j = T i j := by have h := (prF_le (T i) j).2 j (Nat.le_refl j); rw [hpr] at h; exact h
      refine lv_iload hx hb dX3_prune_16 (lv_at hl 0 rfl) ?_
      refine lv_aload_n hx hb dX3_prune_18 rfl (lv_at hl 3 rfl) ?_
      refine va_get (D := D) (ci := 3) (v := .ref z) (C := RX3) (T := TX3) (N := 11) hx hb hts hi_X3_prune_3 hown hK.1 hP 0 rfl rfl 1 (by decide) (hts _ hf_X3_prune_13) (fun _ h9 => h9) rfl dX3_prune_19 ?_
      refine lv_iload_n hx hb dX3_prune_22 rfl (lv_at hl 4 rfl) ?_
      refine pw_iald hx hb hK.1 hP 2 0 rfl rfl (by decide) (by omega) dX3_prune_23 ?_
      refine pw_top (y := nI (Z i)) rfl ?_
      refine pw_icmp_ge (tgt := 80) hx hb (by omega) (by omega) dX3_prune_24 (by decide) (fun c_3 => ?_) (fun c_3 => ?_)
      · exact absurd c_3 (by omega)
      · have _h := c_3
        refine lv_aload_n hx hb dX3_prune_27 rfl (lv_at hl 3 rfl) ?_
        refine lv_iload_n hx hb dX3_prune_28 rfl (lv_at hl 4 rfl) ?_
        refine lv_iload hx hb dX3_prune_29 (lv_at hl 0 rfl) ?_
        -- m_thing
        refine pw_cVp (As := [.int (nI i), .int (nI j)]) (rest := []) (wc := [(x, .inr (3, [.ref t, .ref z, .int (nI md), .ref rf, .ref rw, .ref pl, .ref hd, .ref ha, .ref lo, .ref ol, .ref as_])), (t, .inl (cI, 192, .inl (flT (upR T i (F)))))]) ⟨hx, hb, hml, hown, hts⟩ (m_thing l D cI cP cR x t z rf rw pl hd ha lo ol as_ md (upR T i (F)) i j (by omega) (by omega)) (cwV 2 hts gX3_prune_X3_thing rfl rfl rfl (by decide +kernel) ⟨Nat.le_of_ble_eq_true rfl, Nat.le_of_ble_eq_true rfl⟩) hK hP hD [0, 1] rfl (by decide) 0 rfl rfl rfl rfl hl.1 rfl (Nat.le_of_ble_eq_true rfl) dX3_prune_31 ⟨Nat.zero_le _, Nat.zero_le _⟩ ?_
        refine pw_top (y := F j) (congrFun (upR_s _ _ _) _) ?_
        refine pw_top (y := T i j) eF ?_
        refine lv_istore (lv' := [(5, .int (T i j)), (4, .int (nI j)), (3, .int (nI kp)), (2, .int (ms)), (0, .ref x), (1, .int (nI i))]) hx hb dX3_prune_34 hl (by decide) rfl (fun ls hl => ?_)
        refine lv_iload_n hx hb dX3_prune_36 rfl (lv_at hl 3 rfl) ?_
        refine lv_iload hx hb dX3_prune_37 (lv_at hl 0 rfl) ?_
        refine lv_bipush (v := nI 10) hx hb dX3_prune_39 (by decide) ?_
        refine lv_irem hx hb dX3_prune_41 (by decide) ?_
        refine lv_ishr hx hb dX3_prune_42 ?_
        refine lv_iconst (v := nI 1) hx hb dX3_prune_43 (by decide) ?_
        refine lv_iand hx hb dX3_prune_44 ?_
        refine lv_if_ne (tgt := 64) hx hb dX3_prune_45 (by decide) (fun c_4 => ?_) (fun c_4 => ?_)
        · have _h := c_4
          refine lv_iload_n hx hb dX3_prune_64 rfl (lv_at hl 3 rfl) ?_
          refine lv_iconst (v := nI 1) hx hb dX3_prune_65 (by decide) ?_
          refine lv_iload hx hb dX3_prune_66 (lv_at hl 0 rfl) ?_
          refine lv_bipush (v := nI 10) hx hb dX3_prune_68 (by decide) ?_
          refine lv_irem hx hb dX3_prune_70 (by decide) ?_
          refine lv_ishl hx hb dX3_prune_71 ?_
          refine lv_ior hx hb dX3_prune_72 ?_
          refine lv_istore_n (lv' := [(2, .int (ms ||| ((nI 1) <<< (((T i j) - (T i j) / (nI 10) * (nI 10)) &&& 31)))), (5, .int (T i j)), (4, .int (nI j)), (3, .int (nI kp)), (0, .ref x), (1, .int (nI i))]) hx hb dX3_prune_73 rfl hl (by decide) rfl (fun ls hl => ?_)
          refine lv_iinc (v := nI (j + 1)) (lv' := [(4, .int (nI (j + 1))), (2, .int (ms ||| ((nI 1) <<< (((T i j) - (T i j) / (nI 10) * (nI 10)) &&& 31)))), (5, .int (T i j)), (3, .int (nI kp)), (0, .ref x), (1, .int (nI i))]) hx hb dX3_prune_74 hl (k := 2) rfl (pw_inc _ 1) (by decide) rfl (fun ls hl => ?_)
          refine lv_goto (tgt := 16) hx hb dX3_prune_77 (by decide) ?_
          have h : ¬ (ms &&& (nI 1 <<< ((T i j - T i j / nI 10 * nI 10) &&& 31))) = 0 := fun q => c_4 ((sh_bit _ _).mpr q)
          rw [sh_or _ _ h] at hl
          exact ih (j + 1) (by omega) _ _ _ (by show (if ((prF (T i) j).2.1 &&& _) = 0 then _ else _) = _; rw [hpr]; exact if_neg h) H locs hP hD hS ls (lv_sub hl [0, 3, 1, 4, 5] rfl)
        · have _h := c_4
          refine lv_aload_n hx hb dX3_prune_48 rfl (lv_at hl 4 rfl) ?_
          refine va_get (D := D) (ci := 3) (v := .ref t) (C := RX3) (T := TX3) (N := 11) hx hb hts hi_X3_prune_3 hown hK.1 hP 0 rfl rfl 0 (by decide) (hts _ hf_X3_prune_7) (fun _ h9 => h9) rfl dX3_prune_49 ?_
          refine lv_bipush (v := nI 64) hx hb dX3_prune_52 (by decide) ?_
          refine lv_iload_n hx hb dX3_prune_54 rfl (lv_at hl 5 rfl) ?_
          refine pw_imul hx hb dX3_prune_55 ?_
          refine lv_iload_n hx hb dX3_prune_56 rfl (lv_at hl 2 rfl) ?_
          refine pw_iadd hx hb dX3_prune_57 ?_
          refine lv_iload hx hb dX3_prune_58 (lv_at hl 0 rfl) ?_
          refine pw_iast hx hb hK.1 hP hD hS 1 0 rfl rfl (by decide) (by omega) dX3_prune_60 (fun H locs hP hD hS => ?_)
          have hP : va_P D vwCl ([(x, .inr (3, [.ref t, .ref z, .int (nI md), .ref rf, .ref rw, .ref pl, .ref hd, .ref ha, .ref lo, .ref ol, .ref as_])), (t, .inl (cI, 192, .inl (upd (flT (upR T i (F))) ((64 * i) + kp) (T i j)))), (z, .inl (cI, 3, .inl (zI Z))), (rf, .inl (cI, 4, .inl (RF))), (rw, .inl (cI, 4, .inl (R))), (pl, .inl (cI, 4, .inl (P))), (hd, .inl (cI, 4, .inl (Hd))), (ha, .inl (cI, 4, .inl (HA))), (lo, .inl (cI, 4, .inl (Lo))), (ol, .inl (cI, 4, .inl (Ol))), (as_, .inl (cI, 64, .inl (AS)))]) H := hP
          have hD : va_D A ([(x, .inr (3, [.ref t, .ref z, .int (nI md), .ref rf, .ref rw, .ref pl, .ref hd, .ref ha, .ref lo, .ref ol, .ref as_])), (t, .inl (cI, 192, .inl (upd (flT (upR T i (F))) ((64 * i) + kp) (T i j)))), (z, .inl (cI, 3, .inl (zI Z))), (rf, .inl (cI, 4, .inl (RF))), (rw, .inl (cI, 4, .inl (R))), (pl, .inl (cI, 4, .inl (P))), (hd, .inl (cI, 4, .inl (Hd))), (ha, .inl (cI, 4, .inl (HA))), (lo, .inl (cI, 4, .inl (Lo))), (ol, .inl (cI, 4, .inl (Ol))), (as_, .inl (cI, 64, .inl (AS)))]) := hD
          rw [flT_upd2 _ _ _ _ _ (by omega)] at hP hD
          refine lv_iinc (v := nI (kp + 1)) (lv' := [(3, .int (nI (kp + 1))), (5, .int (T i j)), (4, .int (nI j)), (2, .int (ms)), (0, .ref x), (1, .int (nI i))]) hx hb dX3_prune_61 hl (k := 2) rfl (pw_inc _ 1) (by decide) rfl (fun ls hl => ?_)
          refine lv_iload_n hx hb dX3_prune_64 rfl (lv_at hl 3 rfl) ?_
          refine lv_iconst (v := nI 1) hx hb dX3_prune_65 (by decide) ?_
          refine lv_iload hx hb dX3_prune_66 (lv_at hl 1 rfl) ?_
          refine lv_bipush (v := nI 10) hx hb dX3_prune_68 (by decide) ?_
          refine lv_irem hx hb dX3_prune_70 (by decide) ?_
          refine lv_ishl hx hb dX3_prune_71 ?_
          refine lv_ior hx hb dX3_prune_72 ?_
          refine lv_istore_n (lv' := [(2, .int (ms ||| ((nI 1) <<< (((T i j) - (T i j) / (nI 10) * (nI 10)) &&& 31)))), (3, .int (nI (kp + 1))), (5, .int (T i j)), (4, .int (nI j)), (0, .ref x), (1, .int (nI i))]) hx hb dX3_prune_73 rfl hl (by decide) rfl (fun ls hl => ?_)
          refine lv_iinc (v := nI (j + 1)) (lv' := [(4, .int (nI (j + 1))), (2, .int (ms ||| ((nI 1) <<< (((T i j) - (T i j) / (nI 10) * (nI 10)) &&& 31)))), (3, .int (nI (kp + 1))), (5, .int (T i j)), (0, .ref x), (1, .int (nI i))]) hx hb dX3_prune_74 hl (k := 3) rfl (pw_inc _ 1) (by decide) rfl (fun ls hl => ?_)
          refine lv_goto (tgt := 16) hx hb dX3_prune_77 (by decide) ?_
          have h := (sh_bit _ _).mp c_4
          exact ih (j + 1) (by omega) _ _ _ (by show (if ((prF (T i) j).2.1 &&& _) = 0 then _ else _) = _; rw [hpr]; exact if_pos h) H locs hP hD hS ls (lv_sub hl [0, 2, 1, 4, 5] rfl)
  have e0 : upR T i (T i) = T := upR_i T i
  exact loop (Z i) 0 (by omega) 0 (nI 0) (T i) rfl s.heap [] (by rw [e0]; exact hP) (by rw [e0]; exact hD) hS ls (lv_sub hl [0, 1, 2, 3, 4] rfl)
set_option maxHeartbeats 4000000 in
set_option maxRecDepth 100000 in
theorem n_prune (l : Launch) (D : va_G) (cI cP cR : ClassId) (x t z rf rw pl hd ha lo ol as_ md : Nat) (T : Nat → Nat → Int32) (Z : Nat → Nat) (RF R P Hd HA Lo Ol AS : Nat → Int32) (i : Nat) (hi : i < 3) (hz : Z i ≤ 60) (hk : (prF (T i) (Z i)).1 < Z i) : pw_Mm l yX3_prune wsX3_prune ({ frames := 2, cells := 0, slots := 0, locals := 47 } : Room) D cI cP cR [.ref x, .int (nI i)] ([(x, .inr (3, [.ref t, .ref z, .int (nI md), .ref rf, .ref rw, .ref pl, .ref hd, .ref ha, .ref lo, .ref ol, .ref as_])), (t, .inl (cI, 192, .inl (flT T))), (z, .inl (cI, 3, .inl (zI Z))), (rf, .inl (cI, 4, .inl (RF))), (rw, .inl (cI, 4, .inl (R))), (pl, .inl (cI, 4, .inl (P))), (hd, .inl (cI, 4, .inl (Hd))), (ha, .inl (cI, 4, .inl (HA))), (lo, .inl (cI, 4, .inl (Lo))), (ol, .inl (cI, 4, .inl (Ol))), (as_, .inl (cI, 64, .inl (AS)))]) (fun v w => v = some (.int (nI (Z i - (prF (T i) (Z i)).1))) ∧ w = [(x, .inr (3, [.ref t, .ref z, .int (nI md), .ref rf, .ref rw, .ref pl, .ref hd, .ref ha, .ref lo, .ref ol, .ref as_])), (t, .inl (cI, 192, .inl (flT (upR T i ((prF (T i) (Z i)).2.2))))), (z, .inl (cI, 3, .inl (zI (updN Z i ((prF (T i) (Z i)).1))))), (rf, .inl (cI, 4, .inl (RF))), (rw, .inl (cI, 4, .inl (R))), (pl, .inl (cI, 4, .inl (P))), (hd, .inl (cI, 4, .inl (Hd))), (ha, .inl (cI, 4, .inl (HA))), (lo, .inl (cI, 4, .inl (Lo))), (ol, .inl (cI, 4, .inl (agF R Ol (nI i) (-1)))), (as_, .inl (cI, 64, .inl (AS)))]) := by
  refine pw_ofm (cc := cX3_prune) (maxL := 6) (ret := (some .int)) (own := RX3) (by decide +kernel) rfl rfl (Nat.le_of_ble_eq_true rfl) ?_
  intro p_ e_ s m bel meth cd A hE hK hP hD hA hS ls hl
  obtain ⟨hx, hb, hr, hml, hown, hts, hlocks⟩ := hE
  have hNW := hK.2
  have hl : lv_has ls 6 [(0, .ref x), (1, .int (nI i))] := hl
  refine lv_iload_n hx hb dX3_prune_0 rfl (lv_at hl 1 rfl) ?_
  -- m_isRow_t
  refine pw_cSp (As := [.int (nI i)]) (rest := []) ⟨hx, hb, hml, hown, hts⟩ (m_isRow_t l D cI cP cR i (by omega)) (va_cwS 1 hts gX3_prune_X3_isRow rfl rfl rfl (by decide +kernel) ⟨Nat.le_of_ble_eq_true rfl, Nat.le_of_ble_eq_true rfl⟩) hK rfl hl.1 rfl (Nat.le_of_ble_eq_true rfl) dX3_prune_1 ⟨Nat.zero_le _, Nat.zero_le _⟩ ?_
  refine lv_if_ne (tgt := 9) hx hb dX3_prune_4 (by decide) (fun c => ?_) (fun c => absurd c (by decide))
  refine lv_iconst (v := nI 0) hx hb dX3_prune_9 (by decide) ?_
  refine lv_istore_n (lv' := [(2, .int (nI 0)), (0, .ref x), (1, .int (nI i))]) hx hb dX3_prune_10 rfl hl (by decide) rfl (fun ls hl => ?_)
  refine lv_iconst (v := nI 0) hx hb dX3_prune_11 (by decide) ?_
  refine lv_istore_n (lv' := [(3, .int (nI 0)), (2, .int (nI 0)), (0, .ref x), (1, .int (nI i))]) hx hb dX3_prune_12 rfl hl (by decide) rfl (fun ls hl => ?_)
  refine lv_iconst (v := nI 0) hx hb dX3_prune_13 (by decide) ?_
  refine lv_istore (lv' := [(4, .int (nI 0)), (3, .int (nI 0)), (2, .int (nI 0)), (0, .ref x), (1, .int (nI i))]) hx hb dX3_prune_14 hl (by decide) rfl (fun ls hl => ?_)
  have loop : ∀ (r : Nat), ∀ (j : Nat), j + r = Z i → ∀ (kp : Nat) (ms : Int32) (F : Nat → Int32), prF (T i) j = (kp, ms, F) → ∀ (H : Heap) (locs : List Loc), va_P D vwCl ([(x, .inr (3, [.ref t, .ref z, .int (nI md), .ref rf, .ref rw, .ref pl, .ref hd, .ref ha, .ref lo, .ref ol, .ref as_])), (t, .inl (cI, 192, .inl (flT (upR T i (F))))), (z, .inl (cI, 3, .inl (zI Z))), (rf, .inl (cI, 4, .inl (RF))), (rw, .inl (cI, 4, .inl (R))), (pl, .inl (cI, 4, .inl (P))), (hd, .inl (cI, 4, .inl (Hd))), (ha, .inl (cI, 4, .inl (HA))), (lo, .inl (cI, 4, .inl (Lo))), (ol, .inl (cI, 4, .inl (Ol))), (as_, .inl (cI, 64, .inl (AS)))]) H → va_D A ([(x, .inr (3, [.ref t, .ref z, .int (nI md), .ref rf, .ref rw, .ref pl, .ref hd, .ref ha, .ref lo, .ref ol, .ref as_])), (t, .inl (cI, 192, .inl (flT (upR T i (F))))), (z, .inl (cI, 3, .inl (zI Z))), (rf, .inl (cI, 4, .inl (RF))), (rw, .inl (cI, 4, .inl (R))), (pl, .inl (cI, 4, .inl (P))), (hd, .inl (cI, 4, .inl (Hd))), (ha, .inl (cI, 4, .inl (HA))), (lo, .inl (cI, 4, .inl (Lo))), (ol, .inl (cI, 4, .inl (Ol))), (as_, .inl (cI, 64, .inl (AS)))]) → va_S A s.heap H locs → ∀ ls : Array Slot, lv_has ls 6 [(4, .int (nI j)), (3, .int (nI kp)), (2, .int (ms)), (0, .ref x), (1, .int (nI i))] → W p_ l e_ ({ frames := 2, cells := 0, slots := 0, locals := 47 } : Room) s m [.ref x, .int (nI i)].toArray bel meth cd H locs 0 0 (MQ bel (pw_Qm (fun v w => v = some (.int (nI (Z i - (prF (T i) (Z i)).1))) ∧ w = [(x, .inr (3, [.ref t, .ref z, .int (nI md), .ref rf, .ref rw, .ref pl, .ref hd, .ref ha, .ref lo, .ref ol, .ref as_])), (t, .inl (cI, 192, .inl (flT (upR T i ((prF (T i) (Z i)).2.2))))), (z, .inl (cI, 3, .inl (zI (updN Z i ((prF (T i) (Z i)).1))))), (rf, .inl (cI, 4, .inl (RF))), (rw, .inl (cI, 4, .inl (R))), (pl, .inl (cI, 4, .inl (P))), (hd, .inl (cI, 4, .inl (Hd))), (ha, .inl (cI, 4, .inl (HA))), (lo, .inl (cI, 4, .inl (Lo))), (ol, .inl (cI, 4, .inl (agF R Ol (nI i) (-1)))), (as_, .inl (cI, 64, .inl (AS)))]) D A) [.ref x, .int (nI i)].toArray s 0 0 A) (F0 m 16 ls []) := by
    intro r
    induction r with
    | zero =>
      intro j hr1 kp ms F hpr H locs hP hD hS ls hl
      obtain rfl : j = Z i := by omega
      have hkp : kp ≤ Z i := by have h := (prF_le (T i) (Z i)).1; rw [hpr] at h; exact h
      have hk2 := hk
      rw [hpr] at hk2
      simp only at hk2
      refine lv_iload hx hb dX3_prune_16 (lv_at hl 0 rfl) ?_
      refine lv_aload_n hx hb dX3_prune_18 rfl (lv_at hl 3 rfl) ?_
      refine va_get (D := D) (ci := 3) (v := .ref z) (C := RX3) (T := TX3) (N := 11) hx hb hts hi_X3_prune_3 hown hK.1 hP 0 rfl rfl 1 (by decide) (hts _ hf_X3_prune_13) (fun _ h9 => h9) rfl dX3_prune_19 ?_
      refine lv_iload_n hx hb dX3_prune_22 rfl (lv_at hl 4 rfl) ?_
      refine pw_iald hx hb hK.1 hP 2 0 rfl rfl (by decide) (by omega) dX3_prune_23 ?_
      refine pw_top (y := nI (Z i)) rfl ?_
      refine pw_icmp_ge (tgt := 80) hx hb (by omega) (by omega) dX3_prune_24 (by decide) (fun c_1 => ?_) (fun c_1 => ?_)
      · have _h := c_1
        refine lv_aload_n hx hb dX3_prune_80 rfl (lv_at hl 3 rfl) ?_
        refine va_get (D := D) (ci := 3) (v := .ref z) (C := RX3) (T := TX3) (N := 11) hx hb hts hi_X3_prune_3 hown hK.1 hP 0 rfl rfl 1 (by decide) (hts _ hf_X3_prune_13) (fun _ h9 => h9) rfl dX3_prune_81 ?_
        refine lv_iload_n hx hb dX3_prune_84 rfl (lv_at hl 4 rfl) ?_
        refine pw_iald hx hb hK.1 hP 2 0 rfl rfl (by decide) (by omega) dX3_prune_85 ?_
        refine pw_top (y := nI (Z i)) rfl ?_
        refine lv_iload_n hx hb dX3_prune_86 rfl (lv_at hl 1 rfl) ?_
        refine pw_isub hx hb (by omega) dX3_prune_87 ?_
        refine lv_istore (lv' := [(4, .int (nI ((Z i) - kp))), (3, .int (nI kp)), (2, .int (ms)), (0, .ref x), (1, .int (nI i))]) hx hb dX3_prune_88 hl (by decide) rfl (fun ls hl => ?_)
        refine lv_aload_n hx hb dX3_prune_90 rfl (lv_at hl 3 rfl) ?_
        refine va_get (D := D) (ci := 3) (v := .ref z) (C := RX3) (T := TX3) (N := 11) hx hb hts hi_X3_prune_3 hown hK.1 hP 0 rfl rfl 1 (by decide) (hts _ hf_X3_prune_13) (fun _ h9 => h9) rfl dX3_prune_91 ?_
        refine lv_iload_n hx hb dX3_prune_94 rfl (lv_at hl 4 rfl) ?_
        refine lv_iload_n hx hb dX3_prune_95 rfl (lv_at hl 1 rfl) ?_
        refine pw_iast hx hb hK.1 hP hD hS 2 0 rfl rfl (by decide) (by omega) dX3_prune_96 (fun H locs hP hD hS => ?_)
        have hP : va_P D vwCl ([(x, .inr (3, [.ref t, .ref z, .int (nI md), .ref rf, .ref rw, .ref pl, .ref hd, .ref ha, .ref lo, .ref ol, .ref as_])), (t, .inl (cI, 192, .inl (flT (upR T i (F))))), (z, .inl (cI, 3, .inl (upd (zI Z) i (nI kp)))), (rf, .inl (cI, 4, .inl (RF))), (rw, .inl (cI, 4, .inl (R))), (pl, .inl (cI, 4, .inl (P))), (hd, .inl (cI, 4, .inl (Hd))), (ha, .inl (cI, 4, .inl (HA))), (lo, .inl (cI, 4, .inl (Lo))), (ol, .inl (cI, 4, .inl (Ol))), (as_, .inl (cI, 64, .inl (AS)))]) H := hP
        have hD : va_D A ([(x, .inr (3, [.ref t, .ref z, .int (nI md), .ref rf, .ref rw, .ref pl, .ref hd, .ref ha, .ref lo, .ref ol, .ref as_])), (t, .inl (cI, 192, .inl (flT (upR T i (F))))), (z, .inl (cI, 3, .inl (upd (zI Z) i (nI kp)))), (rf, .inl (cI, 4, .inl (RF))), (rw, .inl (cI, 4, .inl (R))), (pl, .inl (cI, 4, .inl (P))), (hd, .inl (cI, 4, .inl (Hd))), (ha, .inl (cI, 4, .inl (HA))), (lo, .inl (cI, 4, .inl (Lo))), (ol, .inl (cI, 4, .inl (Ol))), (as_, .inl (cI, 64, .inl (AS)))]) := hD
        rw [zI_upd] at hP hD
        refine lv_iload hx hb dX3_prune_97 (lv_at hl 0 rfl) ?_
        refine pw_if_le (tgt := 108) hx hb (by omega) dX3_prune_99 (by decide) (fun c_2 => ?_) (fun c_2 => ?_)
        · exact absurd c_2 (by omega)
        · have _h := c_2
          refine lv_aload_n hx hb dX3_prune_102 rfl (lv_at hl 3 rfl) ?_
          refine lv_iload_n hx hb dX3_prune_103 rfl (lv_at hl 4 rfl) ?_
          refine lv_iconst (v := -1) hx hb dX3_prune_104 (by decide) ?_
          -- m_age
          refine pw_cVm (As := [.int (nI i), .int (-1)]) (rest := []) (wc := [(x, .inr (3, [.ref t, .ref z, .int (nI md), .ref rf, .ref rw, .ref pl, .ref hd, .ref ha, .ref lo, .ref ol, .ref as_])), (rw, .inl (cI, 4, .inl (R))), (ol, .inl (cI, 4, .inl (Ol)))]) (wr := [(t, .inl (cI, 192, .inl (flT (upR T i (F))))), (z, .inl (cI, 3, .inl (zI (updN Z i kp)))), (rf, .inl (cI, 4, .inl (RF))), (pl, .inl (cI, 4, .inl (P))), (hd, .inl (cI, 4, .inl (Hd))), (ha, .inl (cI, 4, .inl (HA))), (lo, .inl (cI, 4, .inl (Lo))), (as_, .inl (cI, 64, .inl (AS)))]) ⟨hx, hb, hml, hown, hts⟩ (m_age l D cI cP cR x t z rf rw pl hd ha lo ol as_ md R Ol i (-1)) (cwV 2 hts gX3_prune_X3_age rfl rfl rfl (by decide +kernel) ⟨Nat.le_of_ble_eq_true rfl, Nat.le_of_ble_eq_true rfl⟩) hK hP hD hS hA [0, 4, 9] [1, 2, 3, 5, 6, 7, 8, 10] rfl rfl (by decide) (by decide) (by decide) 0 rfl rfl rfl rfl hl.1 rfl (Nat.le_of_ble_eq_true rfl) dX3_prune_105 ⟨Nat.zero_le _, Nat.zero_le _⟩ (fun v1 w1 H locs hq hP hD hS => ?_)
          rcases hq with ⟨rfl, rfl⟩
          have hP : va_P D vwCl ([(t, .inl (cI, 192, .inl (flT (upR T i (F))))), (z, .inl (cI, 3, .inl (zI (updN Z i kp)))), (rf, .inl (cI, 4, .inl (RF))), (pl, .inl (cI, 4, .inl (P))), (hd, .inl (cI, 4, .inl (Hd))), (ha, .inl (cI, 4, .inl (HA))), (lo, .inl (cI, 4, .inl (Lo))), (as_, .inl (cI, 64, .inl (AS))), (x, .inr (3, [.ref t, .ref z, .int (nI md), .ref rf, .ref rw, .ref pl, .ref hd, .ref ha, .ref lo, .ref ol, .ref as_])), (rw, .inl (cI, 4, .inl (R))), (ol, .inl (cI, 4, .inl (agF R Ol (nI i) (-1))))]) H := hP
          have hD : va_D A ([(t, .inl (cI, 192, .inl (flT (upR T i (F))))), (z, .inl (cI, 3, .inl (zI (updN Z i kp)))), (rf, .inl (cI, 4, .inl (RF))), (pl, .inl (cI, 4, .inl (P))), (hd, .inl (cI, 4, .inl (Hd))), (ha, .inl (cI, 4, .inl (HA))), (lo, .inl (cI, 4, .inl (Lo))), (as_, .inl (cI, 64, .inl (AS))), (x, .inr (3, [.ref t, .ref z, .int (nI md), .ref rf, .ref rw, .ref pl, .ref hd, .ref ha, .ref lo, .ref ol, .ref as_])), (rw, .inl (cI, 4, .inl (R))), (ol, .inl (cI, 4, .inl (agF R Ol (nI i) (-1))))]) := hD
          refine W.eq (g2 := F0 m 108 ls []) rfl ?_
          refine lv_iload hx hb dX3_prune_108 (lv_at hl 0 rfl) ?_
          have hP := hP.sub (ws' := [(x, .inr (3, [.ref t, .ref z, .int (nI md), .ref rf, .ref rw, .ref pl, .ref hd, .ref ha, .ref lo, .ref ol, .ref as_])), (t, .inl (cI, 192, .inl (flT (upR T i (F))))), (z, .inl (cI, 3, .inl (zI (updN Z i kp)))), (rf, .inl (cI, 4, .inl (RF))), (rw, .inl (cI, 4, .inl (R))), (pl, .inl (cI, 4, .inl (P))), (hd, .inl (cI, 4, .inl (Hd))), (ha, .inl (cI, 4, .inl (HA))), (lo, .inl (cI, 4, .inl (Lo))), (ol, .inl (cI, 4, .inl (agF R Ol (nI i) (-1)))), (as_, .inl (cI, 64, .inl (AS)))]) [8, 0, 1, 2, 9, 3, 4, 5, 6, 10, 7] rfl
          have hD := hD.sub (ws' := [(x, .inr (3, [.ref t, .ref z, .int (nI md), .ref rf, .ref rw, .ref pl, .ref hd, .ref ha, .ref lo, .ref ol, .ref as_])), (t, .inl (cI, 192, .inl (flT (upR T i (F))))), (z, .inl (cI, 3, .inl (zI (updN Z i kp)))), (rf, .inl (cI, 4, .inl (RF))), (rw, .inl (cI, 4, .inl (R))), (pl, .inl (cI, 4, .inl (P))), (hd, .inl (cI, 4, .inl (Hd))), (ha, .inl (cI, 4, .inl (HA))), (lo, .inl (cI, 4, .inl (Lo))), (ol, .inl (cI, 4, .inl (agF R Ol (nI i) (-1)))), (as_, .inl (cI, 64, .inl (AS)))]) [8, 0, 1, 2, 9, 3, 4, 5, 6, 10, 7] (by decide) rfl
          exact pw_iret hx hb hr (rfl) hlocks dX3_prune_110 hS hP hD (⟨by rw [hpr], by rw [hpr]⟩)
      · exact absurd c_1 (by omega)
    | succ r ih =>
      intro j hr1 kp ms F hpr H locs hP hD hS ls hl
      have hkp : kp ≤ j := by have h := (prF_le (T i) (j)).1; rw [hpr] at h; exact h
      have eF : F j = T i j := by have h := (prF_le (T i) j).2 j (Nat.le_refl j); rw [hpr] at h; exact h
      refine lv_iload hx hb dX3_prune_16 (lv_at hl 0 rfl) ?_
      refine lv_aload_n hx hb dX3_prune_18 rfl (lv_at hl 3 rfl) ?_
      refine va_get (D := D) (ci := 3) (v := .ref z) (C := RX3) (T := TX3) (N := 11) hx hb hts hi_X3_prune_3 hown hK.1 hP 0 rfl rfl 1 (by decide) (hts _ hf_X3_prune_13) (fun _ h9 => h9) rfl dX3_prune_19 ?_
      refine lv_iload_n hx hb dX3_prune_22 rfl (lv_at hl 4 rfl) ?_
      refine pw_iald hx hb hK.1 hP 2 0 rfl rfl (by decide) (by omega) dX3_prune_23 ?_
      refine pw_top (y := nI (Z i)) rfl ?_
      refine pw_icmp_ge (tgt := 80) hx hb (by omega) (by omega) dX3_prune_24 (by decide) (fun c_3 => ?_) (fun c_3 => ?_)
      · exact absurd c_3 (by omega)
      · have _h := c_3
        refine lv_aload_n hx hb dX3_prune_27 rfl (lv_at hl 3 rfl) ?_
        refine lv_iload_n hx hb dX3_prune_28 rfl (lv_at hl 4 rfl) ?_
        refine lv_iload hx hb dX3_prune_29 (lv_at hl 0 rfl) ?_
        -- m_thing
        refine pw_cVp (As := [.int (nI i), .int (nI j)]) (rest := []) (wc := [(x, .inr (3, [.ref t, .ref z, .int (nI md), .ref rf, .ref rw, .ref pl, .ref hd, .ref ha, .ref lo, .ref ol, .ref as_])), (t, .inl (cI, 192, .inl (flT (upR T i (F)))))]) ⟨hx, hb, hml, hown, hts⟩ (m_thing l D cI cP cR x t z rf rw pl hd ha lo ol as_ md (upR T i (F)) i j (by omega) (by omega)) (cwV 2 hts gX3_prune_X3_thing rfl rfl rfl (by decide +kernel) ⟨Nat.le_of_ble_eq_true rfl, Nat.le_of_ble_eq_true rfl⟩) hK hP hD [0, 1] rfl (by decide) 0 rfl rfl rfl rfl hl.1 rfl (Nat.le_of_ble_eq_true rfl) dX3_prune_31 ⟨Nat.zero_le _, Nat.zero_le _⟩ ?_
        refine pw_top (y := F j) (congrFun (upR_s _ _ _) _) ?_
        refine pw_top (y := T i j) eF ?_
        refine lv_istore (lv' := [(5, .int (T i j)), (4, .int (nI j)), (3, .int (nI kp)), (2, .int (ms)), (0, .ref x), (1, .int (nI i))]) hx hb dX3_prune_34 hl (by decide) rfl (fun ls hl => ?_)
        refine lv_iload_n hx hb dX3_prune_36 rfl (lv_at hl 3 rfl) ?_
        refine lv_iload hx hb dX3_prune_37 (lv_at hl 0 rfl) ?_
        refine lv_bipush (v := nI 10) hx hb dX3_prune_39 (by decide) ?_
        refine lv_irem hx hb dX3_prune_41 (by decide) ?_
        refine lv_ishr hx hb dX3_prune_42 ?_
        refine lv_iconst (v := nI 1) hx hb dX3_prune_43 (by decide) ?_
        refine lv_iand hx hb dX3_prune_44 ?_
        refine lv_if_ne (tgt := 64) hx hb dX3_prune_45 (by decide) (fun c_4 => ?_) (fun c_4 => ?_)
        · have _h := c_4
          refine lv_iload_n hx hb dX3_prune_64 rfl (lv_at hl 3 rfl) ?_
          refine lv_iconst (v := nI 1) hx hb dX3_prune_65 (by decide) ?_
          refine lv_iload hx hb dX3_prune_66 (lv_at hl 0 rfl) ?_
          refine lv_bipush (v := nI 10) hx hb dX3_prune_68 (by decide) ?_
          refine lv_irem hx hb dX3_prune_70 (by decide) ?_
          refine lv_ishl hx hb dX3_prune_71 ?_
          refine lv_ior hx hb dX3_prune_72 ?_
          refine lv_istore_n (lv' := [(2, .int (ms ||| ((nI 1) <<< (((T i j) - (T i j) / (nI 10) * (nI 10)) &&& 31)))), (5, .int (T i j)), (4, .int (nI j)), (3, .int (nI kp)), (0, .ref x), (1, .int (nI i))]) hx hb dX3_prune_73 rfl hl (by decide) rfl (fun ls hl => ?_)
          refine lv_iinc (v := nI (j + 1)) (lv' := [(4, .int (nI (j + 1))), (2, .int (ms ||| ((nI 1) <<< (((T i j) - (T i j) / (nI 10) * (nI 10)) &&& 31)))), (5, .int (T i j)), (3, .int (nI kp)), (0, .ref x), (1, .int (nI i))]) hx hb dX3_prune_74 hl (k := 2) rfl (pw_inc _ 1) (by decide) rfl (fun ls hl => ?_)
          refine lv_goto (tgt := 16) hx hb dX3_prune_77 (by decide) ?_
          have h : ¬ (ms &&& (nI 1 <<< ((T i j - T i j / nI 10 * nI 10) &&& 31))) = 0 := fun q => c_4 ((sh_bit _ _).mpr q)
          rw [sh_or _ _ h] at hl
          exact ih (j + 1) (by omega) _ _ _ (by show (if ((prF (T i) j).2.1 &&& _) = 0 then _ else _) = _; rw [hpr]; exact if_neg h) H locs hP hD hS ls (lv_sub hl [0, 3, 1, 4, 5] rfl)
        · have _h := c_4
          refine lv_aload_n hx hb dX3_prune_48 rfl (lv_at hl 4 rfl) ?_
          refine va_get (D := D) (ci := 3) (v := .ref t) (C := RX3) (T := TX3) (N := 11) hx hb hts hi_X3_prune_3 hown hK.1 hP 0 rfl rfl 0 (by decide) (hts _ hf_X3_prune_7) (fun _ h9 => h9) rfl dX3_prune_49 ?_
          refine lv_bipush (v := nI 64) hx hb dX3_prune_52 (by decide) ?_
          refine lv_iload_n hx hb dX3_prune_54 rfl (lv_at hl 5 rfl) ?_
          refine pw_imul hx hb dX3_prune_55 ?_
          refine lv_iload_n hx hb dX3_prune_56 rfl (lv_at hl 2 rfl) ?_
          refine pw_iadd hx hb dX3_prune_57 ?_
          refine lv_iload hx hb dX3_prune_58 (lv_at hl 0 rfl) ?_
          refine pw_iast hx hb hK.1 hP hD hS 1 0 rfl rfl (by decide) (by omega) dX3_prune_60 (fun H locs hP hD hS => ?_)
          have hP : va_P D vwCl ([(x, .inr (3, [.ref t, .ref z, .int (nI md), .ref rf, .ref rw, .ref pl, .ref hd, .ref ha, .ref lo, .ref ol, .ref as_])), (t, .inl (cI, 192, .inl (upd (flT (upR T i (F))) ((64 * i) + kp) (T i j)))), (z, .inl (cI, 3, .inl (zI Z))), (rf, .inl (cI, 4, .inl (RF))), (rw, .inl (cI, 4, .inl (R))), (pl, .inl (cI, 4, .inl (P))), (hd, .inl (cI, 4, .inl (Hd))), (ha, .inl (cI, 4, .inl (HA))), (lo, .inl (cI, 4, .inl (Lo))), (ol, .inl (cI, 4, .inl (Ol))), (as_, .inl (cI, 64, .inl (AS)))]) H := hP
          have hD : va_D A ([(x, .inr (3, [.ref t, .ref z, .int (nI md), .ref rf, .ref rw, .ref pl, .ref hd, .ref ha, .ref lo, .ref ol, .ref as_])), (t, .inl (cI, 192, .inl (upd (flT (upR T i (F))) ((64 * i) + kp) (T i j)))), (z, .inl (cI, 3, .inl (zI Z))), (rf, .inl (cI, 4, .inl (RF))), (rw, .inl (cI, 4, .inl (R))), (pl, .inl (cI, 4, .inl (P))), (hd, .inl (cI, 4, .inl (Hd))), (ha, .inl (cI, 4, .inl (HA))), (lo, .inl (cI, 4, .inl (Lo))), (ol, .inl (cI, 4, .inl (Ol))), (as_, .inl (cI, 64, .inl (AS)))]) := hD
          rw [flT_upd2 _ _ _ _ _ (by omega)] at hP hD
          refine lv_iinc (v := nI (kp + 1)) (lv' := [(3, .int (nI (kp + 1))), (5, .int (T i j)), (4, .int (nI j)), (2, .int (ms)), (0, .ref x), (1, .int (nI i))]) hx hb dX3_prune_61 hl (k := 2) rfl (pw_inc _ 1) (by decide) rfl (fun ls hl => ?_)
          refine lv_iload_n hx hb dX3_prune_64 rfl (lv_at hl 3 rfl) ?_
          refine lv_iconst (v := nI 1) hx hb dX3_prune_65 (by decide) ?_
          refine lv_iload hx hb dX3_prune_66 (lv_at hl 1 rfl) ?_
          refine lv_bipush (v := nI 10) hx hb dX3_prune_68 (by decide) ?_
          refine lv_irem hx hb dX3_prune_70 (by decide) ?_
          refine lv_ishl hx hb dX3_prune_71 ?_
          refine lv_ior hx hb dX3_prune_72 ?_
          refine lv_istore_n (lv' := [(2, .int (ms ||| ((nI 1) <<< (((T i j) - (T i j) / (nI 10) * (nI 10)) &&& 31)))), (3, .int (nI (kp + 1))), (5, .int (T i j)), (4, .int (nI j)), (0, .ref x), (1, .int (nI i))]) hx hb dX3_prune_73 rfl hl (by decide) rfl (fun ls hl => ?_)
          refine lv_iinc (v := nI (j + 1)) (lv' := [(4, .int (nI (j + 1))), (2, .int (ms ||| ((nI 1) <<< (((T i j) - (T i j) / (nI 10) * (nI 10)) &&& 31)))), (3, .int (nI (kp + 1))), (5, .int (T i j)), (0, .ref x), (1, .int (nI i))]) hx hb dX3_prune_74 hl (k := 3) rfl (pw_inc _ 1) (by decide) rfl (fun ls hl => ?_)
          refine lv_goto (tgt := 16) hx hb dX3_prune_77 (by decide) ?_
          have h := (sh_bit _ _).mp c_4
          exact ih (j + 1) (by omega) _ _ _ (by show (if ((prF (T i) j).2.1 &&& _) = 0 then _ else _) = _; rw [hpr]; exact if_pos h) H locs hP hD hS ls (lv_sub hl [0, 2, 1, 4, 5] rfl)
  have e0 : upR T i (T i) = T := upR_i T i
  exact loop (Z i) 0 (by omega) 0 (nI 0) (T i) rfl s.heap [] (by rw [e0]; exact hP) (by rw [e0]; exact hD) hS ls (lv_sub hl [0, 1, 2, 3, 4] rfl)
