set_option maxHeartbeats 4000000 in
set_option maxRecDepth 100000 in
theorem n_peg_x (l : Launch) (D : va_G) (cI cP cR : ClassId) (x t z rf rw pl hd ha lo ol as_ md : Nat) (T : Nat → Nat → Int32) (Z : Nat → Nat) (RF R P Hd HA Lo Ol AS : Nat → Int32) (peg row q : Int32) (hx_peg : ¬ (0 ≤ peg ∧ peg < nI 4)) : pw_Mp l yX3_peg wsX3_peg ({ frames := 3, cells := 0, slots := 0, locals := 65 } : Room) D cI cP cR [.ref x, .int (peg), .int (row), .int (q)] ([(x, .inr (3, [.ref t, .ref z, .int (nI md), .ref rf, .ref rw, .ref pl, .ref hd, .ref ha, .ref lo, .ref ol, .ref as_])), (t, .inl (cI, 192, .inl (flT T))), (z, .inl (cI, 3, .inl (zI Z))), (rf, .inl (cI, 4, .inl (RF))), (rw, .inl (cI, 4, .inl (R))), (pl, .inl (cI, 4, .inl (P))), (hd, .inl (cI, 4, .inl (Hd))), (ha, .inl (cI, 4, .inl (HA))), (lo, .inl (cI, 4, .inl (Lo))), (ol, .inl (cI, 4, .inl (Ol))), (as_, .inl (cI, 64, .inl (AS)))]) (.int (-1)) := by
  refine pw_ofp (cc := cX3_peg) (maxL := 4) (ret := (some .int)) (own := RX3) (by decide +kernel) rfl rfl (Nat.le_of_ble_eq_true rfl) ?_
  intro p_ e_ s m bel meth cd hE hK hP hD ls hl
  obtain ⟨hx, hb, hr, hml, hown, hts, hlocks⟩ := hE
  have hNW := hK.2
  have hl : lv_has ls 4 [(0, .ref x), (1, .int (peg)), (2, .int (row)), (3, .int (q))] := hl
  refine lv_iload_n hx hb dX3_peg_0 rfl (lv_at hl 1 rfl) ?_
  -- m_isPeg_f
  refine pw_cSp (As := [.int (peg)]) (rest := []) ⟨hx, hb, hml, hown, hts⟩ (m_isPeg_f l D cI cP cR peg hx_peg) (va_cwS 1 hts gX3_peg_X3_isPeg rfl rfl rfl (by decide +kernel) ⟨Nat.le_of_ble_eq_true rfl, Nat.le_of_ble_eq_true rfl⟩) hK rfl hl.1 rfl (Nat.le_of_ble_eq_true rfl) dX3_peg_1 ⟨Nat.zero_le _, Nat.zero_le _⟩ ?_
  refine lv_if_eq (tgt := 14) hx hb dX3_peg_4 (by decide) (fun c => ?_) (fun c => absurd c (by decide))
  refine lv_iconst (v := -1) hx hb dX3_peg_14 (by decide) ?_
  exact pw_piret hx hb hr (rfl) hlocks dX3_peg_15 (rfl)
set_option maxHeartbeats 4000000 in
set_option maxRecDepth 100000 in
theorem n_peg_z (l : Launch) (D : va_G) (cI cP cR : ClassId) (x t z rf rw pl hd ha lo ol as_ md : Nat) (T : Nat → Nat → Int32) (Z : Nat → Nat) (RF R P Hd HA Lo Ol AS : Nat → Int32) (p : Nat) (hp4 : p < 4) (row q : Int32) (hx_row : ¬ (0 ≤ row ∧ row < nI 3)) : pw_Mp l yX3_peg wsX3_peg ({ frames := 3, cells := 0, slots := 0, locals := 65 } : Room) D cI cP cR [.ref x, .int (nI p), .int (row), .int (q)] ([(x, .inr (3, [.ref t, .ref z, .int (nI md), .ref rf, .ref rw, .ref pl, .ref hd, .ref ha, .ref lo, .ref ol, .ref as_])), (t, .inl (cI, 192, .inl (flT T))), (z, .inl (cI, 3, .inl (zI Z))), (rf, .inl (cI, 4, .inl (RF))), (rw, .inl (cI, 4, .inl (R))), (pl, .inl (cI, 4, .inl (P))), (hd, .inl (cI, 4, .inl (Hd))), (ha, .inl (cI, 4, .inl (HA))), (lo, .inl (cI, 4, .inl (Lo))), (ol, .inl (cI, 4, .inl (Ol))), (as_, .inl (cI, 64, .inl (AS)))]) (.int (-1)) := by
  refine pw_ofp (cc := cX3_peg) (maxL := 4) (ret := (some .int)) (own := RX3) (by decide +kernel) rfl rfl (Nat.le_of_ble_eq_true rfl) ?_
  intro p_ e_ s m bel meth cd hE hK hP hD ls hl
  obtain ⟨hx, hb, hr, hml, hown, hts, hlocks⟩ := hE
  have hNW := hK.2
  have hl : lv_has ls 4 [(0, .ref x), (1, .int (nI p)), (2, .int (row)), (3, .int (q))] := hl
  refine lv_iload_n hx hb dX3_peg_0 rfl (lv_at hl 1 rfl) ?_
  -- m_isPeg_t
  refine pw_cSp (As := [.int (nI p)]) (rest := []) ⟨hx, hb, hml, hown, hts⟩ (m_isPeg_t l D cI cP cR p (by omega)) (va_cwS 1 hts gX3_peg_X3_isPeg rfl rfl rfl (by decide +kernel) ⟨Nat.le_of_ble_eq_true rfl, Nat.le_of_ble_eq_true rfl⟩) hK rfl hl.1 rfl (Nat.le_of_ble_eq_true rfl) dX3_peg_1 ⟨Nat.zero_le _, Nat.zero_le _⟩ ?_
  refine lv_if_eq (tgt := 14) hx hb dX3_peg_4 (by decide) (fun c => absurd c (by decide)) (fun c => ?_)
  refine lv_iload_n hx hb dX3_peg_7 rfl (lv_at hl 2 rfl) ?_
  -- m_isRow_f
  refine pw_cSp (As := [.int (row)]) (rest := []) ⟨hx, hb, hml, hown, hts⟩ (m_isRow_f l D cI cP cR row hx_row) (va_cwS 1 hts gX3_peg_X3_isRow rfl rfl rfl (by decide +kernel) ⟨Nat.le_of_ble_eq_true rfl, Nat.le_of_ble_eq_true rfl⟩) hK rfl hl.1 rfl (Nat.le_of_ble_eq_true rfl) dX3_peg_8 ⟨Nat.zero_le _, Nat.zero_le _⟩ ?_
  refine lv_if_ne (tgt := 16) hx hb dX3_peg_11 (by decide) (fun c => absurd c (by decide)) (fun c => ?_)
  refine lv_iconst (v := -1) hx hb dX3_peg_14 (by decide) ?_
  exact pw_piret hx hb hr (rfl) hlocks dX3_peg_15 (rfl)
theorem hi_X3_peg_3 : ∀ w ∈ u_ws RX3 TX3 11, w ∈ wsX3_peg := by decide +kernel
theorem hf_X3_peg_13 : Cond.fieldLink RX3 13 "PegrowModel" "sizes" "[I" ∈ wsX3_peg := by decide +kernel
set_option maxHeartbeats 4000000 in
set_option maxRecDepth 100000 in
theorem n_peg_p (l : Launch) (D : va_G) (cI cP cR : ClassId) (x t z rf rw pl hd ha lo ol as_ md : Nat) (T : Nat → Nat → Int32) (Z : Nat → Nat) (RF R P Hd HA Lo Ol AS : Nat → Int32) (p i : Nat) (hp4 : p < 4) (hi : i < 3) (hz : Z i ≤ 60) (q : Int32) (hq : ¬ (0 ≤ q ∧ q ≤ nI (Z i))) : pw_Mm l yX3_peg wsX3_peg ({ frames := 3, cells := 0, slots := 0, locals := 65 } : Room) D cI cP cR [.ref x, .int (nI p), .int (nI i), .int (q)] ([(x, .inr (3, [.ref t, .ref z, .int (nI md), .ref rf, .ref rw, .ref pl, .ref hd, .ref ha, .ref lo, .ref ol, .ref as_])), (t, .inl (cI, 192, .inl (flT T))), (z, .inl (cI, 3, .inl (zI Z))), (rf, .inl (cI, 4, .inl (RF))), (rw, .inl (cI, 4, .inl (R))), (pl, .inl (cI, 4, .inl (P))), (hd, .inl (cI, 4, .inl (Hd))), (ha, .inl (cI, 4, .inl (HA))), (lo, .inl (cI, 4, .inl (Lo))), (ol, .inl (cI, 4, .inl (Ol))), (as_, .inl (cI, 64, .inl (AS)))]) (fun v w => v = some (.int (-5)) ∧ w = [(x, .inr (3, [.ref t, .ref z, .int (nI md), .ref rf, .ref rw, .ref pl, .ref hd, .ref ha, .ref lo, .ref ol, .ref as_])), (t, .inl (cI, 192, .inl (flT T))), (z, .inl (cI, 3, .inl (zI Z))), (rf, .inl (cI, 4, .inl (upd RF 1 (RF 1 + nI 1)))), (rw, .inl (cI, 4, .inl (R))), (pl, .inl (cI, 4, .inl (P))), (hd, .inl (cI, 4, .inl (Hd))), (ha, .inl (cI, 4, .inl (HA))), (lo, .inl (cI, 4, .inl (Lo))), (ol, .inl (cI, 4, .inl (Ol))), (as_, .inl (cI, 64, .inl (AS)))]) := by
  refine pw_ofm (cc := cX3_peg) (maxL := 4) (ret := (some .int)) (own := RX3) (by decide +kernel) rfl rfl (Nat.le_of_ble_eq_true rfl) ?_
  intro p_ e_ s m bel meth cd A hE hK hP hD hA hS ls hl
  obtain ⟨hx, hb, hr, hml, hown, hts, hlocks⟩ := hE
  have hNW := hK.2
  have hl : lv_has ls 4 [(0, .ref x), (1, .int (nI p)), (2, .int (nI i)), (3, .int (q))] := hl
  refine lv_iload_n hx hb dX3_peg_0 rfl (lv_at hl 1 rfl) ?_
  -- m_isPeg_t
  refine pw_cSp (As := [.int (nI p)]) (rest := []) ⟨hx, hb, hml, hown, hts⟩ (m_isPeg_t l D cI cP cR p (by omega)) (va_cwS 1 hts gX3_peg_X3_isPeg rfl rfl rfl (by decide +kernel) ⟨Nat.le_of_ble_eq_true rfl, Nat.le_of_ble_eq_true rfl⟩) hK rfl hl.1 rfl (Nat.le_of_ble_eq_true rfl) dX3_peg_1 ⟨Nat.zero_le _, Nat.zero_le _⟩ ?_
  refine lv_if_eq (tgt := 14) hx hb dX3_peg_4 (by decide) (fun c => absurd c (by decide)) (fun c => ?_)
  refine lv_iload_n hx hb dX3_peg_7 rfl (lv_at hl 2 rfl) ?_
  -- m_isRow_t
  refine pw_cSp (As := [.int (nI i)]) (rest := []) ⟨hx, hb, hml, hown, hts⟩ (m_isRow_t l D cI cP cR i (by omega)) (va_cwS 1 hts gX3_peg_X3_isRow rfl rfl rfl (by decide +kernel) ⟨Nat.le_of_ble_eq_true rfl, Nat.le_of_ble_eq_true rfl⟩) hK rfl hl.1 rfl (Nat.le_of_ble_eq_true rfl) dX3_peg_8 ⟨Nat.zero_le _, Nat.zero_le _⟩ ?_
  refine lv_if_ne (tgt := 16) hx hb dX3_peg_11 (by decide) (fun c => ?_) (fun c => absurd c (by decide))
  refine lv_iload_n hx hb dX3_peg_16 rfl (lv_at hl 3 rfl) ?_
  refine lv_iconst (v := nI 0) hx hb dX3_peg_17 (by decide) ?_
  refine lv_aload_n hx hb dX3_peg_18 rfl (lv_at hl 0 rfl) ?_
  refine va_get (D := D) (ci := 3) (v := .ref z) (C := RX3) (T := TX3) (N := 11) hx hb hts hi_X3_peg_3 hown hK.1 hP 0 rfl rfl 1 (by decide) (hts _ hf_X3_peg_13) (fun _ h9 => h9) rfl dX3_peg_19 ?_
  refine lv_iload_n hx hb dX3_peg_22 rfl (lv_at hl 2 rfl) ?_
  refine pw_iald hx hb hK.1 hP 2 0 rfl rfl (by decide) (by omega) dX3_peg_23 ?_
  refine pw_top (y := nI (Z i)) rfl ?_
  -- m_in_f
  refine pw_cSp (As := [.int (q), .int (nI 0), .int (nI (Z i))]) (rest := []) ⟨hx, hb, hml, hown, hts⟩ (m_in_f l D cI cP cR q (nI 0) (nI (Z i)) (hq)) (va_cwS 3 hts gX3_peg_X3_in rfl rfl rfl (by decide +kernel) ⟨Nat.le_of_ble_eq_true rfl, Nat.le_of_ble_eq_true rfl⟩) hK rfl hl.1 rfl (Nat.le_of_ble_eq_true rfl) dX3_peg_24 ⟨Nat.zero_le _, Nat.zero_le _⟩ ?_
  refine lv_if_ne (tgt := 38) hx hb dX3_peg_27 (by decide) (fun c => absurd c (by decide)) (fun c => ?_)
  refine lv_aload_n hx hb dX3_peg_30 rfl (lv_at hl 0 rfl) ?_
  refine lv_iconst (v := nI 1) hx hb dX3_peg_31 (by decide) ?_
  refine lv_bipush (v := -5) hx hb dX3_peg_32 (by decide) ?_
  -- m_refuse
  refine pw_cVm (As := [.int (nI 1), .int (-5)]) (rest := []) (wc := [(x, .inr (3, [.ref t, .ref z, .int (nI md), .ref rf, .ref rw, .ref pl, .ref hd, .ref ha, .ref lo, .ref ol, .ref as_])), (rf, .inl (cI, 4, .inl (RF)))]) (wr := [(t, .inl (cI, 192, .inl (flT T))), (z, .inl (cI, 3, .inl (zI Z))), (rw, .inl (cI, 4, .inl (R))), (pl, .inl (cI, 4, .inl (P))), (hd, .inl (cI, 4, .inl (Hd))), (ha, .inl (cI, 4, .inl (HA))), (lo, .inl (cI, 4, .inl (Lo))), (ol, .inl (cI, 4, .inl (Ol))), (as_, .inl (cI, 64, .inl (AS)))]) ⟨hx, hb, hml, hown, hts⟩ (m_refuse l D cI cP cR x t z rf rw pl hd ha lo ol as_ md RF 1 (-5) (by decide)) (cwV 2 hts gX3_peg_X3_refuse rfl rfl rfl (by decide +kernel) ⟨Nat.le_of_ble_eq_true rfl, Nat.le_of_ble_eq_true rfl⟩) hK hP hD hS hA [0, 3] [1, 2, 4, 5, 6, 7, 8, 9, 10] rfl rfl (by decide) (by decide) (by decide) 0 rfl rfl rfl rfl hl.1 rfl (Nat.le_of_ble_eq_true rfl) dX3_peg_34 ⟨Nat.zero_le _, Nat.zero_le _⟩ (fun v1 w1 H locs hq hP hD hS => ?_)
  rcases hq with ⟨rfl, rfl⟩
  have hP : va_P D vwCl ([(t, .inl (cI, 192, .inl (flT T))), (z, .inl (cI, 3, .inl (zI Z))), (rw, .inl (cI, 4, .inl (R))), (pl, .inl (cI, 4, .inl (P))), (hd, .inl (cI, 4, .inl (Hd))), (ha, .inl (cI, 4, .inl (HA))), (lo, .inl (cI, 4, .inl (Lo))), (ol, .inl (cI, 4, .inl (Ol))), (as_, .inl (cI, 64, .inl (AS))), (x, .inr (3, [.ref t, .ref z, .int (nI md), .ref rf, .ref rw, .ref pl, .ref hd, .ref ha, .ref lo, .ref ol, .ref as_])), (rf, .inl (cI, 4, .inl (upd RF 1 (RF 1 + nI 1))))]) H := hP
  have hD : va_D A ([(t, .inl (cI, 192, .inl (flT T))), (z, .inl (cI, 3, .inl (zI Z))), (rw, .inl (cI, 4, .inl (R))), (pl, .inl (cI, 4, .inl (P))), (hd, .inl (cI, 4, .inl (Hd))), (ha, .inl (cI, 4, .inl (HA))), (lo, .inl (cI, 4, .inl (Lo))), (ol, .inl (cI, 4, .inl (Ol))), (as_, .inl (cI, 64, .inl (AS))), (x, .inr (3, [.ref t, .ref z, .int (nI md), .ref rf, .ref rw, .ref pl, .ref hd, .ref ha, .ref lo, .ref ol, .ref as_])), (rf, .inl (cI, 4, .inl (upd RF 1 (RF 1 + nI 1))))]) := hD
  refine W.eq (g2 := F0 m 37 ls [.int (-5)]) rfl ?_
  have hP := hP.sub (ws' := [(x, .inr (3, [.ref t, .ref z, .int (nI md), .ref rf, .ref rw, .ref pl, .ref hd, .ref ha, .ref lo, .ref ol, .ref as_])), (t, .inl (cI, 192, .inl (flT T))), (z, .inl (cI, 3, .inl (zI Z))), (rf, .inl (cI, 4, .inl (upd RF 1 (RF 1 + nI 1)))), (rw, .inl (cI, 4, .inl (R))), (pl, .inl (cI, 4, .inl (P))), (hd, .inl (cI, 4, .inl (Hd))), (ha, .inl (cI, 4, .inl (HA))), (lo, .inl (cI, 4, .inl (Lo))), (ol, .inl (cI, 4, .inl (Ol))), (as_, .inl (cI, 64, .inl (AS)))]) [9, 0, 1, 10, 2, 3, 4, 5, 6, 7, 8] rfl
  have hD := hD.sub (ws' := [(x, .inr (3, [.ref t, .ref z, .int (nI md), .ref rf, .ref rw, .ref pl, .ref hd, .ref ha, .ref lo, .ref ol, .ref as_])), (t, .inl (cI, 192, .inl (flT T))), (z, .inl (cI, 3, .inl (zI Z))), (rf, .inl (cI, 4, .inl (upd RF 1 (RF 1 + nI 1)))), (rw, .inl (cI, 4, .inl (R))), (pl, .inl (cI, 4, .inl (P))), (hd, .inl (cI, 4, .inl (Hd))), (ha, .inl (cI, 4, .inl (HA))), (lo, .inl (cI, 4, .inl (Lo))), (ol, .inl (cI, 4, .inl (Ol))), (as_, .inl (cI, 64, .inl (AS)))]) [9, 0, 1, 10, 2, 3, 4, 5, 6, 7, 8] (by decide) rfl
  exact pw_iret hx hb hr (rfl) hlocks dX3_peg_37 hS hP hD (⟨rfl, rfl⟩)
theorem hf_X3_peg_19 : Cond.fieldLink RX3 19 "PegrowModel" "rowOf" "[I" ∈ wsX3_peg := by decide +kernel
theorem hf_X3_peg_22 : Cond.fieldLink RX3 22 "PegrowModel" "placeOf" "[I" ∈ wsX3_peg := by decide +kernel
set_option maxHeartbeats 4000000 in
set_option maxRecDepth 100000 in
theorem n_peg (l : Launch) (D : va_G) (cI cP cR : ClassId) (x t z rf rw pl hd ha lo ol as_ md : Nat) (T : Nat → Nat → Int32) (Z : Nat → Nat) (RF R P Hd HA Lo Ol AS : Nat → Int32) (p i : Nat) (hp4 : p < 4) (hi : i < 3) (hz : Z i ≤ 60) (j : Nat) (hj : j ≤ Z i) : pw_Mm l yX3_peg wsX3_peg ({ frames := 3, cells := 0, slots := 0, locals := 65 } : Room) D cI cP cR [.ref x, .int (nI p), .int (nI i), .int (nI j)] ([(x, .inr (3, [.ref t, .ref z, .int (nI md), .ref rf, .ref rw, .ref pl, .ref hd, .ref ha, .ref lo, .ref ol, .ref as_])), (t, .inl (cI, 192, .inl (flT T))), (z, .inl (cI, 3, .inl (zI Z))), (rf, .inl (cI, 4, .inl (RF))), (rw, .inl (cI, 4, .inl (R))), (pl, .inl (cI, 4, .inl (P))), (hd, .inl (cI, 4, .inl (Hd))), (ha, .inl (cI, 4, .inl (HA))), (lo, .inl (cI, 4, .inl (Lo))), (ol, .inl (cI, 4, .inl (Ol))), (as_, .inl (cI, 64, .inl (AS)))]) (fun v w => v = some (.int (nI j)) ∧ w = [(x, .inr (3, [.ref t, .ref z, .int (nI md), .ref rf, .ref rw, .ref pl, .ref hd, .ref ha, .ref lo, .ref ol, .ref as_])), (t, .inl (cI, 192, .inl (flT T))), (z, .inl (cI, 3, .inl (zI Z))), (rf, .inl (cI, 4, .inl (RF))), (rw, .inl (cI, 4, .inl (upd (upd R p (-1)) p (nI i)))), (pl, .inl (cI, 4, .inl (upd P p (nI j)))), (hd, .inl (cI, 4, .inl (upd Hd p (-1)))), (ha, .inl (cI, 4, .inl (HA))), (lo, .inl (cI, 4, .inl (upd Lo p (nI 0)))), (ol, .inl (cI, 4, .inl (upd Ol p (nI 0)))), (as_, .inl (cI, 64, .inl (AS)))]) := by
  refine pw_ofm (cc := cX3_peg) (maxL := 4) (ret := (some .int)) (own := RX3) (by decide +kernel) rfl rfl (Nat.le_of_ble_eq_true rfl) ?_
  intro p_ e_ s m bel meth cd A hE hK hP hD hA hS ls hl
  obtain ⟨hx, hb, hr, hml, hown, hts, hlocks⟩ := hE
  have hNW := hK.2
  have hl : lv_has ls 4 [(0, .ref x), (1, .int (nI p)), (2, .int (nI i)), (3, .int (nI j))] := hl
  refine lv_iload_n hx hb dX3_peg_0 rfl (lv_at hl 1 rfl) ?_
  -- m_isPeg_t
  refine pw_cSp (As := [.int (nI p)]) (rest := []) ⟨hx, hb, hml, hown, hts⟩ (m_isPeg_t l D cI cP cR p (by omega)) (va_cwS 1 hts gX3_peg_X3_isPeg rfl rfl rfl (by decide +kernel) ⟨Nat.le_of_ble_eq_true rfl, Nat.le_of_ble_eq_true rfl⟩) hK rfl hl.1 rfl (Nat.le_of_ble_eq_true rfl) dX3_peg_1 ⟨Nat.zero_le _, Nat.zero_le _⟩ ?_
  refine lv_if_eq (tgt := 14) hx hb dX3_peg_4 (by decide) (fun c => absurd c (by decide)) (fun c => ?_)
  refine lv_iload_n hx hb dX3_peg_7 rfl (lv_at hl 2 rfl) ?_
  -- m_isRow_t
  refine pw_cSp (As := [.int (nI i)]) (rest := []) ⟨hx, hb, hml, hown, hts⟩ (m_isRow_t l D cI cP cR i (by omega)) (va_cwS 1 hts gX3_peg_X3_isRow rfl rfl rfl (by decide +kernel) ⟨Nat.le_of_ble_eq_true rfl, Nat.le_of_ble_eq_true rfl⟩) hK rfl hl.1 rfl (Nat.le_of_ble_eq_true rfl) dX3_peg_8 ⟨Nat.zero_le _, Nat.zero_le _⟩ ?_
  refine lv_if_ne (tgt := 16) hx hb dX3_peg_11 (by decide) (fun c => ?_) (fun c => absurd c (by decide))
  refine lv_iload_n hx hb dX3_peg_16 rfl (lv_at hl 3 rfl) ?_
  refine lv_iconst (v := nI 0) hx hb dX3_peg_17 (by decide) ?_
  refine lv_aload_n hx hb dX3_peg_18 rfl (lv_at hl 0 rfl) ?_
  refine va_get (D := D) (ci := 3) (v := .ref z) (C := RX3) (T := TX3) (N := 11) hx hb hts hi_X3_peg_3 hown hK.1 hP 0 rfl rfl 1 (by decide) (hts _ hf_X3_peg_13) (fun _ h9 => h9) rfl dX3_peg_19 ?_
  refine lv_iload_n hx hb dX3_peg_22 rfl (lv_at hl 2 rfl) ?_
  refine pw_iald hx hb hK.1 hP 2 0 rfl rfl (by decide) (by omega) dX3_peg_23 ?_
  refine pw_top (y := nI (Z i)) rfl ?_
  -- m_in_t
  refine pw_cSp (As := [.int (nI j), .int (nI 0), .int (nI (Z i))]) (rest := []) ⟨hx, hb, hml, hown, hts⟩ (m_in_t l D cI cP cR (nI j) (nI 0) (nI (Z i)) (⟨pw_ge0 (by omega), (pw_leN (by omega) (by omega)).mpr (by omega)⟩)) (va_cwS 3 hts gX3_peg_X3_in rfl rfl rfl (by decide +kernel) ⟨Nat.le_of_ble_eq_true rfl, Nat.le_of_ble_eq_true rfl⟩) hK rfl hl.1 rfl (Nat.le_of_ble_eq_true rfl) dX3_peg_24 ⟨Nat.zero_le _, Nat.zero_le _⟩ ?_
  refine lv_if_ne (tgt := 38) hx hb dX3_peg_27 (by decide) (fun c => ?_) (fun c => absurd c (by decide))
  refine lv_aload_n hx hb dX3_peg_38 rfl (lv_at hl 0 rfl) ?_
  refine lv_iload_n hx hb dX3_peg_39 rfl (lv_at hl 1 rfl) ?_
  -- m_leave
  refine pw_cVm (As := [.int (nI p)]) (rest := []) (wc := [(x, .inr (3, [.ref t, .ref z, .int (nI md), .ref rf, .ref rw, .ref pl, .ref hd, .ref ha, .ref lo, .ref ol, .ref as_])), (rw, .inl (cI, 4, .inl (R))), (hd, .inl (cI, 4, .inl (Hd))), (lo, .inl (cI, 4, .inl (Lo))), (ol, .inl (cI, 4, .inl (Ol)))]) (wr := [(t, .inl (cI, 192, .inl (flT T))), (z, .inl (cI, 3, .inl (zI Z))), (rf, .inl (cI, 4, .inl (RF))), (pl, .inl (cI, 4, .inl (P))), (ha, .inl (cI, 4, .inl (HA))), (as_, .inl (cI, 64, .inl (AS)))]) ⟨hx, hb, hml, hown, hts⟩ (m_leave l D cI cP cR x t z rf rw pl hd ha lo ol as_ md R Hd Lo Ol p (by omega)) (cwV 1 hts gX3_peg_X3_leave rfl rfl rfl (by decide +kernel) ⟨Nat.le_of_ble_eq_true rfl, Nat.le_of_ble_eq_true rfl⟩) hK hP hD hS hA [0, 4, 6, 8, 9] [1, 2, 3, 5, 7, 10] rfl rfl (by decide) (by decide) (by decide) 0 rfl rfl rfl rfl hl.1 rfl (Nat.le_of_ble_eq_true rfl) dX3_peg_40 ⟨Nat.zero_le _, Nat.zero_le _⟩ (fun v1 w1 H locs hq hP hD hS => ?_)
  rcases hq with ⟨rfl, rfl⟩
  have hP : va_P D vwCl ([(t, .inl (cI, 192, .inl (flT T))), (z, .inl (cI, 3, .inl (zI Z))), (rf, .inl (cI, 4, .inl (RF))), (pl, .inl (cI, 4, .inl (P))), (ha, .inl (cI, 4, .inl (HA))), (as_, .inl (cI, 64, .inl (AS))), (x, .inr (3, [.ref t, .ref z, .int (nI md), .ref rf, .ref rw, .ref pl, .ref hd, .ref ha, .ref lo, .ref ol, .ref as_])), (rw, .inl (cI, 4, .inl (upd R p (-1)))), (hd, .inl (cI, 4, .inl (upd Hd p (-1)))), (lo, .inl (cI, 4, .inl (upd Lo p (nI 0)))), (ol, .inl (cI, 4, .inl (upd Ol p (nI 0))))]) H := hP
  have hD : va_D A ([(t, .inl (cI, 192, .inl (flT T))), (z, .inl (cI, 3, .inl (zI Z))), (rf, .inl (cI, 4, .inl (RF))), (pl, .inl (cI, 4, .inl (P))), (ha, .inl (cI, 4, .inl (HA))), (as_, .inl (cI, 64, .inl (AS))), (x, .inr (3, [.ref t, .ref z, .int (nI md), .ref rf, .ref rw, .ref pl, .ref hd, .ref ha, .ref lo, .ref ol, .ref as_])), (rw, .inl (cI, 4, .inl (upd R p (-1)))), (hd, .inl (cI, 4, .inl (upd Hd p (-1)))), (lo, .inl (cI, 4, .inl (upd Lo p (nI 0)))), (ol, .inl (cI, 4, .inl (upd Ol p (nI 0))))]) := hD
  refine W.eq (g2 := F0 m 43 ls []) rfl ?_
  refine lv_aload_n hx hb dX3_peg_43 rfl (lv_at hl 0 rfl) ?_
  refine va_get (D := D) (ci := 3) (v := .ref rw) (C := RX3) (T := TX3) (N := 11) hx hb hts hi_X3_peg_3 hown hK.1 hP 6 rfl rfl 4 (by decide) (hts _ hf_X3_peg_19) (fun _ h9 => h9) rfl dX3_peg_44 ?_
  refine lv_iload_n hx hb dX3_peg_47 rfl (lv_at hl 1 rfl) ?_
  refine lv_iload_n hx hb dX3_peg_48 rfl (lv_at hl 2 rfl) ?_
  refine pw_iast hx hb hK.1 hP hD hS 7 0 rfl rfl (by decide) (by omega) dX3_peg_49 (fun H locs hP hD hS => ?_)
  have hP : va_P D vwCl ([(t, .inl (cI, 192, .inl (flT T))), (z, .inl (cI, 3, .inl (zI Z))), (rf, .inl (cI, 4, .inl (RF))), (pl, .inl (cI, 4, .inl (P))), (ha, .inl (cI, 4, .inl (HA))), (as_, .inl (cI, 64, .inl (AS))), (x, .inr (3, [.ref t, .ref z, .int (nI md), .ref rf, .ref rw, .ref pl, .ref hd, .ref ha, .ref lo, .ref ol, .ref as_])), (rw, .inl (cI, 4, .inl (upd (upd R p (-1)) p (nI i)))), (hd, .inl (cI, 4, .inl (upd Hd p (-1)))), (lo, .inl (cI, 4, .inl (upd Lo p (nI 0)))), (ol, .inl (cI, 4, .inl (upd Ol p (nI 0))))]) H := hP
  have hD : va_D A ([(t, .inl (cI, 192, .inl (flT T))), (z, .inl (cI, 3, .inl (zI Z))), (rf, .inl (cI, 4, .inl (RF))), (pl, .inl (cI, 4, .inl (P))), (ha, .inl (cI, 4, .inl (HA))), (as_, .inl (cI, 64, .inl (AS))), (x, .inr (3, [.ref t, .ref z, .int (nI md), .ref rf, .ref rw, .ref pl, .ref hd, .ref ha, .ref lo, .ref ol, .ref as_])), (rw, .inl (cI, 4, .inl (upd (upd R p (-1)) p (nI i)))), (hd, .inl (cI, 4, .inl (upd Hd p (-1)))), (lo, .inl (cI, 4, .inl (upd Lo p (nI 0)))), (ol, .inl (cI, 4, .inl (upd Ol p (nI 0))))]) := hD
  refine lv_aload_n hx hb dX3_peg_50 rfl (lv_at hl 0 rfl) ?_
  refine va_get (D := D) (ci := 3) (v := .ref pl) (C := RX3) (T := TX3) (N := 11) hx hb hts hi_X3_peg_3 hown hK.1 hP 6 rfl rfl 5 (by decide) (hts _ hf_X3_peg_22) (fun _ h9 => h9) rfl dX3_peg_51 ?_
  refine lv_iload_n hx hb dX3_peg_54 rfl (lv_at hl 1 rfl) ?_
  refine lv_iload_n hx hb dX3_peg_55 rfl (lv_at hl 3 rfl) ?_
  refine pw_iast hx hb hK.1 hP hD hS 3 0 rfl rfl (by decide) (by omega) dX3_peg_56 (fun H locs hP hD hS => ?_)
  have hP : va_P D vwCl ([(t, .inl (cI, 192, .inl (flT T))), (z, .inl (cI, 3, .inl (zI Z))), (rf, .inl (cI, 4, .inl (RF))), (pl, .inl (cI, 4, .inl (upd P p (nI j)))), (ha, .inl (cI, 4, .inl (HA))), (as_, .inl (cI, 64, .inl (AS))), (x, .inr (3, [.ref t, .ref z, .int (nI md), .ref rf, .ref rw, .ref pl, .ref hd, .ref ha, .ref lo, .ref ol, .ref as_])), (rw, .inl (cI, 4, .inl (upd (upd R p (-1)) p (nI i)))), (hd, .inl (cI, 4, .inl (upd Hd p (-1)))), (lo, .inl (cI, 4, .inl (upd Lo p (nI 0)))), (ol, .inl (cI, 4, .inl (upd Ol p (nI 0))))]) H := hP
  have hD : va_D A ([(t, .inl (cI, 192, .inl (flT T))), (z, .inl (cI, 3, .inl (zI Z))), (rf, .inl (cI, 4, .inl (RF))), (pl, .inl (cI, 4, .inl (upd P p (nI j)))), (ha, .inl (cI, 4, .inl (HA))), (as_, .inl (cI, 64, .inl (AS))), (x, .inr (3, [.ref t, .ref z, .int (nI md), .ref rf, .ref rw, .ref pl, .ref hd, .ref ha, .ref lo, .ref ol, .ref as_])), (rw, .inl (cI, 4, .inl (upd (upd R p (-1)) p (nI i)))), (hd, .inl (cI, 4, .inl (upd Hd p (-1)))), (lo, .inl (cI, 4, .inl (upd Lo p (nI 0)))), (ol, .inl (cI, 4, .inl (upd Ol p (nI 0))))]) := hD
  refine lv_iload_n hx hb dX3_peg_57 rfl (lv_at hl 3 rfl) ?_
  have hP := hP.sub (ws' := [(x, .inr (3, [.ref t, .ref z, .int (nI md), .ref rf, .ref rw, .ref pl, .ref hd, .ref ha, .ref lo, .ref ol, .ref as_])), (t, .inl (cI, 192, .inl (flT T))), (z, .inl (cI, 3, .inl (zI Z))), (rf, .inl (cI, 4, .inl (RF))), (rw, .inl (cI, 4, .inl (upd (upd R p (-1)) p (nI i)))), (pl, .inl (cI, 4, .inl (upd P p (nI j)))), (hd, .inl (cI, 4, .inl (upd Hd p (-1)))), (ha, .inl (cI, 4, .inl (HA))), (lo, .inl (cI, 4, .inl (upd Lo p (nI 0)))), (ol, .inl (cI, 4, .inl (upd Ol p (nI 0)))), (as_, .inl (cI, 64, .inl (AS)))]) [6, 0, 1, 2, 7, 3, 8, 4, 9, 10, 5] rfl
  have hD := hD.sub (ws' := [(x, .inr (3, [.ref t, .ref z, .int (nI md), .ref rf, .ref rw, .ref pl, .ref hd, .ref ha, .ref lo, .ref ol, .ref as_])), (t, .inl (cI, 192, .inl (flT T))), (z, .inl (cI, 3, .inl (zI Z))), (rf, .inl (cI, 4, .inl (RF))), (rw, .inl (cI, 4, .inl (upd (upd R p (-1)) p (nI i)))), (pl, .inl (cI, 4, .inl (upd P p (nI j)))), (hd, .inl (cI, 4, .inl (upd Hd p (-1)))), (ha, .inl (cI, 4, .inl (HA))), (lo, .inl (cI, 4, .inl (upd Lo p (nI 0)))), (ol, .inl (cI, 4, .inl (upd Ol p (nI 0)))), (as_, .inl (cI, 64, .inl (AS)))]) [6, 0, 1, 2, 7, 3, 8, 4, 9, 10, 5] (by decide) rfl
  exact pw_iret hx hb hr (rfl) hlocks dX3_peg_58 hS hP hD (⟨rfl, rfl⟩)
theorem hi_X3_bars_3 : ∀ w ∈ u_ws RX3 TX3 11, w ∈ wsX3_bars := by decide +kernel
theorem hf_X3_bars_19 : Cond.fieldLink RX3 19 "PegrowModel" "rowOf" "[I" ∈ wsX3_bars := by decide +kernel
set_option maxHeartbeats 4000000 in
set_option maxRecDepth 100000 in
theorem m_bars_n (l : Launch) (D : va_G) (cI cP cR : ClassId) (x t z rf rw pl hd ha lo ol as_ md : Nat) (RF R Ol : Nat → Int32) (p : Nat) (hp4 : p < 4) (hR : R p = -1) : pw_Mp l yX3_bars wsX3_bars ({ frames := 1, cells := 0, slots := 0, locals := 22 } : Room) D cI cP cR [.ref x, .int (nI p)] ([(x, .inr (3, [.ref t, .ref z, .int (nI md), .ref rf, .ref rw, .ref pl, .ref hd, .ref ha, .ref lo, .ref ol, .ref as_])), (rf, .inl (cI, 4, .inl (RF))), (rw, .inl (cI, 4, .inl (R))), (ol, .inl (cI, 4, .inl (Ol)))]) (.int (-2)) := by
  refine pw_ofp (cc := cX3_bars) (maxL := 2) (ret := (some .int)) (own := RX3) (by decide +kernel) rfl rfl (Nat.le_of_ble_eq_true rfl) ?_
  intro p_ e_ s m bel meth cd hE hK hP hD ls hl
  obtain ⟨hx, hb, hr, hml, hown, hts, hlocks⟩ := hE
  have hNW := hK.2
  have hl : lv_has ls 2 [(0, .ref x), (1, .int (nI p))] := hl
  refine lv_aload_n hx hb dX3_bars_0 rfl (lv_at hl 0 rfl) ?_
  refine va_get (D := D) (ci := 3) (v := .ref rw) (C := RX3) (T := TX3) (N := 11) hx hb hts hi_X3_bars_3 hown hK.1 hP 0 rfl rfl 4 (by decide) (hts _ hf_X3_bars_19) (fun _ h9 => h9) rfl dX3_bars_1 ?_
  refine lv_iload_n hx hb dX3_bars_4 rfl (lv_at hl 1 rfl) ?_
  refine pw_iald hx hb hK.1 hP 2 0 rfl rfl (by decide) (by omega) dX3_bars_5 ?_
  refine lv_iconst (v := -1) hx hb dX3_bars_6 (by decide) ?_
  refine lv_icmp_ne (tgt := 13) hx hb dX3_bars_7 (by decide) (fun c_1 => ?_) (fun c_1 => ?_)
  · exact absurd hR c_1
  · have _h := c_1
    refine lv_bipush (v := -2) hx hb dX3_bars_10 (by decide) ?_
    exact pw_piret hx hb hr (rfl) hlocks dX3_bars_12 (rfl)
theorem hf_X3_bars_34 : Cond.fieldLink RX3 34 "PegrowModel" "isOld" "[I" ∈ wsX3_bars := by decide +kernel
set_option maxHeartbeats 4000000 in
set_option maxRecDepth 100000 in
theorem m_bars_o (l : Launch) (D : va_G) (cI cP cR : ClassId) (x t z rf rw pl hd ha lo ol as_ md : Nat) (RF R Ol : Nat → Int32) (p : Nat) (hp4 : p < 4) (hR : ¬ R p = -1) (hO : Ol p = nI 1) : pw_Mm l yX3_bars wsX3_bars ({ frames := 1, cells := 0, slots := 0, locals := 22 } : Room) D cI cP cR [.ref x, .int (nI p)] ([(x, .inr (3, [.ref t, .ref z, .int (nI md), .ref rf, .ref rw, .ref pl, .ref hd, .ref ha, .ref lo, .ref ol, .ref as_])), (rf, .inl (cI, 4, .inl (RF))), (rw, .inl (cI, 4, .inl (R))), (ol, .inl (cI, 4, .inl (Ol)))]) (fun v w => v = some (.int (-4)) ∧ w = [(x, .inr (3, [.ref t, .ref z, .int (nI md), .ref rf, .ref rw, .ref pl, .ref hd, .ref ha, .ref lo, .ref ol, .ref as_])), (rf, .inl (cI, 4, .inl (upd RF 3 (RF 3 + nI 1)))), (rw, .inl (cI, 4, .inl (R))), (ol, .inl (cI, 4, .inl (Ol)))]) := by
  refine pw_ofm (cc := cX3_bars) (maxL := 2) (ret := (some .int)) (own := RX3) (by decide +kernel) rfl rfl (Nat.le_of_ble_eq_true rfl) ?_
  intro p_ e_ s m bel meth cd A hE hK hP hD hA hS ls hl
  obtain ⟨hx, hb, hr, hml, hown, hts, hlocks⟩ := hE
  have hNW := hK.2
  have hl : lv_has ls 2 [(0, .ref x), (1, .int (nI p))] := hl
  refine lv_aload_n hx hb dX3_bars_0 rfl (lv_at hl 0 rfl) ?_
  refine va_get (D := D) (ci := 3) (v := .ref rw) (C := RX3) (T := TX3) (N := 11) hx hb hts hi_X3_bars_3 hown hK.1 hP 0 rfl rfl 4 (by decide) (hts _ hf_X3_bars_19) (fun _ h9 => h9) rfl dX3_bars_1 ?_
  refine lv_iload_n hx hb dX3_bars_4 rfl (lv_at hl 1 rfl) ?_
  refine pw_iald hx hb hK.1 hP 2 0 rfl rfl (by decide) (by omega) dX3_bars_5 ?_
  refine lv_iconst (v := -1) hx hb dX3_bars_6 (by decide) ?_
  refine lv_icmp_ne (tgt := 13) hx hb dX3_bars_7 (by decide) (fun c_1 => ?_) (fun c_1 => ?_)
  · have _h := c_1
    refine lv_aload_n hx hb dX3_bars_13 rfl (lv_at hl 0 rfl) ?_
    refine va_get (D := D) (ci := 3) (v := .ref ol) (C := RX3) (T := TX3) (N := 11) hx hb hts hi_X3_bars_3 hown hK.1 hP 0 rfl rfl 9 (by decide) (hts _ hf_X3_bars_34) (fun _ h9 => h9) rfl dX3_bars_14 ?_
    refine lv_iload_n hx hb dX3_bars_17 rfl (lv_at hl 1 rfl) ?_
    refine pw_iald hx hb hK.1 hP 3 0 rfl rfl (by decide) (by omega) dX3_bars_18 ?_
    refine lv_iconst (v := nI 1) hx hb dX3_bars_19 (by decide) ?_
    refine lv_icmp_ne (tgt := 33) hx hb dX3_bars_20 (by decide) (fun c_2 => ?_) (fun c_2 => ?_)
    · exact absurd hO c_2
    · have _h := c_2
      refine lv_aload_n hx hb dX3_bars_23 rfl (lv_at hl 0 rfl) ?_
      refine lv_iconst (v := nI 3) hx hb dX3_bars_24 (by decide) ?_
      refine lv_bipush (v := -4) hx hb dX3_bars_25 (by decide) ?_
      -- m_refuse
      refine pw_cVm (As := [.int (nI 3), .int (-4)]) (rest := []) (wc := [(x, .inr (3, [.ref t, .ref z, .int (nI md), .ref rf, .ref rw, .ref pl, .ref hd, .ref ha, .ref lo, .ref ol, .ref as_])), (rf, .inl (cI, 4, .inl (RF)))]) (wr := [(rw, .inl (cI, 4, .inl (R))), (ol, .inl (cI, 4, .inl (Ol)))]) ⟨hx, hb, hml, hown, hts⟩ (m_refuse l D cI cP cR x t z rf rw pl hd ha lo ol as_ md RF 3 (-4) (by decide)) (cwV 2 hts gX3_bars_X3_refuse rfl rfl rfl (by decide +kernel) ⟨Nat.le_of_ble_eq_true rfl, Nat.le_of_ble_eq_true rfl⟩) hK hP hD hS hA [0, 1] [2, 3] rfl rfl (by decide) (by decide) (by decide) 0 rfl rfl rfl rfl hl.1 rfl (Nat.le_of_ble_eq_true rfl) dX3_bars_27 ⟨Nat.zero_le _, Nat.zero_le _⟩ (fun v1 w1 H locs hq hP hD hS => ?_)
      rcases hq with ⟨rfl, rfl⟩
      have hP : va_P D vwCl ([(rw, .inl (cI, 4, .inl (R))), (ol, .inl (cI, 4, .inl (Ol))), (x, .inr (3, [.ref t, .ref z, .int (nI md), .ref rf, .ref rw, .ref pl, .ref hd, .ref ha, .ref lo, .ref ol, .ref as_])), (rf, .inl (cI, 4, .inl (upd RF 3 (RF 3 + nI 1))))]) H := hP
      have hD : va_D A ([(rw, .inl (cI, 4, .inl (R))), (ol, .inl (cI, 4, .inl (Ol))), (x, .inr (3, [.ref t, .ref z, .int (nI md), .ref rf, .ref rw, .ref pl, .ref hd, .ref ha, .ref lo, .ref ol, .ref as_])), (rf, .inl (cI, 4, .inl (upd RF 3 (RF 3 + nI 1))))]) := hD
      refine W.eq (g2 := F0 m 30 ls [.int (-4)]) rfl ?_
      refine lv_goto (tgt := 34) hx hb dX3_bars_30 (by decide) ?_
      have hP := hP.sub (ws' := [(x, .inr (3, [.ref t, .ref z, .int (nI md), .ref rf, .ref rw, .ref pl, .ref hd, .ref ha, .ref lo, .ref ol, .ref as_])), (rf, .inl (cI, 4, .inl (upd RF 3 (RF 3 + nI 1)))), (rw, .inl (cI, 4, .inl (R))), (ol, .inl (cI, 4, .inl (Ol)))]) [2, 3, 0, 1] rfl
      have hD := hD.sub (ws' := [(x, .inr (3, [.ref t, .ref z, .int (nI md), .ref rf, .ref rw, .ref pl, .ref hd, .ref ha, .ref lo, .ref ol, .ref as_])), (rf, .inl (cI, 4, .inl (upd RF 3 (RF 3 + nI 1)))), (rw, .inl (cI, 4, .inl (R))), (ol, .inl (cI, 4, .inl (Ol)))]) [2, 3, 0, 1] (by decide) rfl
      exact pw_iret hx hb hr (rfl) hlocks dX3_bars_34 hS hP hD (⟨rfl, rfl⟩)
  · exact absurd c_1 hR
set_option maxHeartbeats 4000000 in
set_option maxRecDepth 100000 in
theorem m_bars (l : Launch) (D : va_G) (cI cP cR : ClassId) (x t z rf rw pl hd ha lo ol as_ md : Nat) (RF R Ol : Nat → Int32) (p : Nat) (hp4 : p < 4) (hR : ¬ R p = -1) (hO : ¬ Ol p = nI 1) : pw_Mp l yX3_bars wsX3_bars ({ frames := 1, cells := 0, slots := 0, locals := 22 } : Room) D cI cP cR [.ref x, .int (nI p)] ([(x, .inr (3, [.ref t, .ref z, .int (nI md), .ref rf, .ref rw, .ref pl, .ref hd, .ref ha, .ref lo, .ref ol, .ref as_])), (rf, .inl (cI, 4, .inl (RF))), (rw, .inl (cI, 4, .inl (R))), (ol, .inl (cI, 4, .inl (Ol)))]) (.int (nI 0)) := by
  refine pw_ofp (cc := cX3_bars) (maxL := 2) (ret := (some .int)) (own := RX3) (by decide +kernel) rfl rfl (Nat.le_of_ble_eq_true rfl) ?_
  intro p_ e_ s m bel meth cd hE hK hP hD ls hl
  obtain ⟨hx, hb, hr, hml, hown, hts, hlocks⟩ := hE
  have hNW := hK.2
  have hl : lv_has ls 2 [(0, .ref x), (1, .int (nI p))] := hl
  refine lv_aload_n hx hb dX3_bars_0 rfl (lv_at hl 0 rfl) ?_
  refine va_get (D := D) (ci := 3) (v := .ref rw) (C := RX3) (T := TX3) (N := 11) hx hb hts hi_X3_bars_3 hown hK.1 hP 0 rfl rfl 4 (by decide) (hts _ hf_X3_bars_19) (fun _ h9 => h9) rfl dX3_bars_1 ?_
  refine lv_iload_n hx hb dX3_bars_4 rfl (lv_at hl 1 rfl) ?_
  refine pw_iald hx hb hK.1 hP 2 0 rfl rfl (by decide) (by omega) dX3_bars_5 ?_
  refine lv_iconst (v := -1) hx hb dX3_bars_6 (by decide) ?_
  refine lv_icmp_ne (tgt := 13) hx hb dX3_bars_7 (by decide) (fun c_1 => ?_) (fun c_1 => ?_)
  · have _h := c_1
    refine lv_aload_n hx hb dX3_bars_13 rfl (lv_at hl 0 rfl) ?_
    refine va_get (D := D) (ci := 3) (v := .ref ol) (C := RX3) (T := TX3) (N := 11) hx hb hts hi_X3_bars_3 hown hK.1 hP 0 rfl rfl 9 (by decide) (hts _ hf_X3_bars_34) (fun _ h9 => h9) rfl dX3_bars_14 ?_
    refine lv_iload_n hx hb dX3_bars_17 rfl (lv_at hl 1 rfl) ?_
    refine pw_iald hx hb hK.1 hP 3 0 rfl rfl (by decide) (by omega) dX3_bars_18 ?_
    refine lv_iconst (v := nI 1) hx hb dX3_bars_19 (by decide) ?_
    refine lv_icmp_ne (tgt := 33) hx hb dX3_bars_20 (by decide) (fun c_2 => ?_) (fun c_2 => ?_)
    · have _h := c_2
      refine lv_iconst (v := nI 0) hx hb dX3_bars_33 (by decide) ?_
      exact pw_piret hx hb hr (rfl) hlocks dX3_bars_34 (rfl)
    · exact absurd c_2 hO
  · exact absurd c_1 hR
theorem hi_X3_goes_3 : ∀ w ∈ u_ws RX3 TX3 11, w ∈ wsX3_goes := by decide +kernel
theorem hf_X3_goes_13 : Cond.fieldLink RX3 13 "PegrowModel" "sizes" "[I" ∈ wsX3_goes := by decide +kernel
theorem hf_X3_goes_19 : Cond.fieldLink RX3 19 "PegrowModel" "rowOf" "[I" ∈ wsX3_goes := by decide +kernel
theorem hf_X3_goes_31 : Cond.fieldLink RX3 31 "PegrowModel" "isLost" "[I" ∈ wsX3_goes := by decide +kernel
set_option maxHeartbeats 4000000 in
set_option maxRecDepth 100000 in
theorem m_goes_e (l : Launch) (D : va_G) (cI cP cR : ClassId) (x t z rf rw pl hd ha lo ol as_ md : Nat) (T : Nat → Nat → Int32) (Z : Nat → Nat) (RF R P Hd HA Lo Ol AS : Nat → Int32) (p i : Nat) (hp4 : p < 4) (hi : i < 3) (hz : Z i ≤ 60) (hR : R p = nI i) (q to_ : Int32) (hq : ¬ (0 ≤ q ∧ q < nI (Z i))) : pw_Mm l yX3_goes wsX3_goes ({ frames := 1, cells := 0, slots := 0, locals := 22 } : Room) D cI cP cR [.ref x, .int (nI p), .int (q), .int (to_)] ([(x, .inr (3, [.ref t, .ref z, .int (nI md), .ref rf, .ref rw, .ref pl, .ref hd, .ref ha, .ref lo, .ref ol, .ref as_])), (t, .inl (cI, 192, .inl (flT T))), (z, .inl (cI, 3, .inl (zI Z))), (rf, .inl (cI, 4, .inl (RF))), (rw, .inl (cI, 4, .inl (R))), (pl, .inl (cI, 4, .inl (P))), (hd, .inl (cI, 4, .inl (Hd))), (ha, .inl (cI, 4, .inl (HA))), (lo, .inl (cI, 4, .inl (Lo))), (ol, .inl (cI, 4, .inl (Ol))), (as_, .inl (cI, 64, .inl (AS)))]) (fun v w => v = some (.int (-6)) ∧ w = [(x, .inr (3, [.ref t, .ref z, .int (nI md), .ref rf, .ref rw, .ref pl, .ref hd, .ref ha, .ref lo, .ref ol, .ref as_])), (t, .inl (cI, 192, .inl (flT T))), (z, .inl (cI, 3, .inl (zI Z))), (rf, .inl (cI, 4, .inl (upd RF 0 (RF 0 + nI 1)))), (rw, .inl (cI, 4, .inl (R))), (pl, .inl (cI, 4, .inl (P))), (hd, .inl (cI, 4, .inl (Hd))), (ha, .inl (cI, 4, .inl (HA))), (lo, .inl (cI, 4, .inl (upd Lo p (nI 1)))), (ol, .inl (cI, 4, .inl (Ol))), (as_, .inl (cI, 64, .inl (AS)))]) := by
  refine pw_ofm (cc := cX3_goes) (maxL := 5) (ret := (some .int)) (own := RX3) (by decide +kernel) rfl rfl (Nat.le_of_ble_eq_true rfl) ?_
  intro p_ e_ s m bel meth cd A hE hK hP hD hA hS ls hl
  obtain ⟨hx, hb, hr, hml, hown, hts, hlocks⟩ := hE
  have hNW := hK.2
  have hl : lv_has ls 5 [(0, .ref x), (1, .int (nI p)), (2, .int (q)), (3, .int (to_))] := hl
  refine lv_aload_n hx hb dX3_goes_0 rfl (lv_at hl 0 rfl) ?_
  refine va_get (D := D) (ci := 3) (v := .ref rw) (C := RX3) (T := TX3) (N := 11) hx hb hts hi_X3_goes_3 hown hK.1 hP 0 rfl rfl 4 (by decide) (hts _ hf_X3_goes_19) (fun _ h9 => h9) rfl dX3_goes_1 ?_
  refine lv_iload_n hx hb dX3_goes_4 rfl (lv_at hl 1 rfl) ?_
  refine pw_iald hx hb hK.1 hP 4 0 rfl rfl (by decide) (by omega) dX3_goes_5 ?_
  refine pw_top (y := nI i) hR ?_
  refine lv_istore (lv' := [(4, .int (nI i)), (0, .ref x), (1, .int (nI p)), (2, .int (q)), (3, .int (to_))]) hx hb dX3_goes_6 hl (by decide) rfl (fun ls hl => ?_)
  refine lv_iload_n hx hb dX3_goes_8 rfl (lv_at hl 3 rfl) ?_
  refine lv_iconst (v := nI 0) hx hb dX3_goes_9 (by decide) ?_
  refine lv_aload_n hx hb dX3_goes_10 rfl (lv_at hl 1 rfl) ?_
  refine va_get (D := D) (ci := 3) (v := .ref z) (C := RX3) (T := TX3) (N := 11) hx hb hts hi_X3_goes_3 hown hK.1 hP 0 rfl rfl 1 (by decide) (hts _ hf_X3_goes_13) (fun _ h9 => h9) rfl dX3_goes_11 ?_
  refine lv_iload hx hb dX3_goes_14 (lv_at hl 0 rfl) ?_
  refine pw_iald hx hb hK.1 hP 2 0 rfl rfl (by decide) (by omega) dX3_goes_16 ?_
  refine pw_top (y := nI (Z i)) rfl ?_
  refine lv_iconst (v := nI 1) hx hb dX3_goes_17 (by decide) ?_
  refine lv_isub hx hb dX3_goes_18 ?_
  -- m_in_f
  refine pw_cSp (As := [.int (q), .int (nI 0), .int ((nI (Z i)) - (nI 1))]) (rest := []) ⟨hx, hb, hml, hown, hts⟩ (m_in_f l D cI cP cR q (nI 0) ((nI (Z i)) - (nI 1)) (fun h => hq ⟨h.1, (pw_lem1 (by omega)).mp h.2⟩)) (va_cwS 3 hts gX3_goes_X3_in rfl rfl rfl (by decide +kernel) ⟨Nat.le_of_ble_eq_true rfl, Nat.le_of_ble_eq_true rfl⟩) hK rfl hl.1 rfl (Nat.le_of_ble_eq_true rfl) dX3_goes_19 ⟨Nat.zero_le _, Nat.zero_le _⟩ ?_
  refine lv_if_ne (tgt := 40) hx hb dX3_goes_22 (by decide) (fun c => absurd c (by decide)) (fun c => ?_)
  refine lv_aload_n hx hb dX3_goes_25 rfl (lv_at hl 1 rfl) ?_
  refine va_get (D := D) (ci := 3) (v := .ref lo) (C := RX3) (T := TX3) (N := 11) hx hb hts hi_X3_goes_3 hown hK.1 hP 0 rfl rfl 8 (by decide) (hts _ hf_X3_goes_31) (fun _ h9 => h9) rfl dX3_goes_26 ?_
  refine lv_iload_n hx hb dX3_goes_29 rfl (lv_at hl 2 rfl) ?_
  refine lv_iconst (v := nI 1) hx hb dX3_goes_30 (by decide) ?_
  refine pw_iast hx hb hK.1 hP hD hS 8 0 rfl rfl (by decide) (by omega) dX3_goes_31 (fun H locs hP hD hS => ?_)
  have hP : va_P D vwCl ([(x, .inr (3, [.ref t, .ref z, .int (nI md), .ref rf, .ref rw, .ref pl, .ref hd, .ref ha, .ref lo, .ref ol, .ref as_])), (t, .inl (cI, 192, .inl (flT T))), (z, .inl (cI, 3, .inl (zI Z))), (rf, .inl (cI, 4, .inl (RF))), (rw, .inl (cI, 4, .inl (R))), (pl, .inl (cI, 4, .inl (P))), (hd, .inl (cI, 4, .inl (Hd))), (ha, .inl (cI, 4, .inl (HA))), (lo, .inl (cI, 4, .inl (upd Lo p (nI 1)))), (ol, .inl (cI, 4, .inl (Ol))), (as_, .inl (cI, 64, .inl (AS)))]) H := hP
  have hD : va_D A ([(x, .inr (3, [.ref t, .ref z, .int (nI md), .ref rf, .ref rw, .ref pl, .ref hd, .ref ha, .ref lo, .ref ol, .ref as_])), (t, .inl (cI, 192, .inl (flT T))), (z, .inl (cI, 3, .inl (zI Z))), (rf, .inl (cI, 4, .inl (RF))), (rw, .inl (cI, 4, .inl (R))), (pl, .inl (cI, 4, .inl (P))), (hd, .inl (cI, 4, .inl (Hd))), (ha, .inl (cI, 4, .inl (HA))), (lo, .inl (cI, 4, .inl (upd Lo p (nI 1)))), (ol, .inl (cI, 4, .inl (Ol))), (as_, .inl (cI, 64, .inl (AS)))]) := hD
  refine lv_aload_n hx hb dX3_goes_32 rfl (lv_at hl 1 rfl) ?_
  refine lv_iconst (v := nI 0) hx hb dX3_goes_33 (by decide) ?_
  refine lv_bipush (v := -6) hx hb dX3_goes_34 (by decide) ?_
  -- m_refuse
  refine pw_cVm (As := [.int (nI 0), .int (-6)]) (rest := []) (wc := [(x, .inr (3, [.ref t, .ref z, .int (nI md), .ref rf, .ref rw, .ref pl, .ref hd, .ref ha, .ref lo, .ref ol, .ref as_])), (rf, .inl (cI, 4, .inl (RF)))]) (wr := [(t, .inl (cI, 192, .inl (flT T))), (z, .inl (cI, 3, .inl (zI Z))), (rw, .inl (cI, 4, .inl (R))), (pl, .inl (cI, 4, .inl (P))), (hd, .inl (cI, 4, .inl (Hd))), (ha, .inl (cI, 4, .inl (HA))), (lo, .inl (cI, 4, .inl (upd Lo p (nI 1)))), (ol, .inl (cI, 4, .inl (Ol))), (as_, .inl (cI, 64, .inl (AS)))]) ⟨hx, hb, hml, hown, hts⟩ (m_refuse l D cI cP cR x t z rf rw pl hd ha lo ol as_ md RF 0 (-6) (by decide)) (cwV 2 hts gX3_goes_X3_refuse rfl rfl rfl (by decide +kernel) ⟨Nat.le_of_ble_eq_true rfl, Nat.le_of_ble_eq_true rfl⟩) hK hP hD hS hA [0, 3] [1, 2, 4, 5, 6, 7, 8, 9, 10] rfl rfl (by decide) (by decide) (by decide) 0 rfl rfl rfl rfl hl.1 rfl (Nat.le_of_ble_eq_true rfl) dX3_goes_36 ⟨Nat.zero_le _, Nat.zero_le _⟩ (fun v1 w1 H locs hq hP hD hS => ?_)
  rcases hq with ⟨rfl, rfl⟩
  have hP : va_P D vwCl ([(t, .inl (cI, 192, .inl (flT T))), (z, .inl (cI, 3, .inl (zI Z))), (rw, .inl (cI, 4, .inl (R))), (pl, .inl (cI, 4, .inl (P))), (hd, .inl (cI, 4, .inl (Hd))), (ha, .inl (cI, 4, .inl (HA))), (lo, .inl (cI, 4, .inl (upd Lo p (nI 1)))), (ol, .inl (cI, 4, .inl (Ol))), (as_, .inl (cI, 64, .inl (AS))), (x, .inr (3, [.ref t, .ref z, .int (nI md), .ref rf, .ref rw, .ref pl, .ref hd, .ref ha, .ref lo, .ref ol, .ref as_])), (rf, .inl (cI, 4, .inl (upd RF 0 (RF 0 + nI 1))))]) H := hP
  have hD : va_D A ([(t, .inl (cI, 192, .inl (flT T))), (z, .inl (cI, 3, .inl (zI Z))), (rw, .inl (cI, 4, .inl (R))), (pl, .inl (cI, 4, .inl (P))), (hd, .inl (cI, 4, .inl (Hd))), (ha, .inl (cI, 4, .inl (HA))), (lo, .inl (cI, 4, .inl (upd Lo p (nI 1)))), (ol, .inl (cI, 4, .inl (Ol))), (as_, .inl (cI, 64, .inl (AS))), (x, .inr (3, [.ref t, .ref z, .int (nI md), .ref rf, .ref rw, .ref pl, .ref hd, .ref ha, .ref lo, .ref ol, .ref as_])), (rf, .inl (cI, 4, .inl (upd RF 0 (RF 0 + nI 1))))]) := hD
  refine W.eq (g2 := F0 m 39 ls [.int (-6)]) rfl ?_
  have hP := hP.sub (ws' := [(x, .inr (3, [.ref t, .ref z, .int (nI md), .ref rf, .ref rw, .ref pl, .ref hd, .ref ha, .ref lo, .ref ol, .ref as_])), (t, .inl (cI, 192, .inl (flT T))), (z, .inl (cI, 3, .inl (zI Z))), (rf, .inl (cI, 4, .inl (upd RF 0 (RF 0 + nI 1)))), (rw, .inl (cI, 4, .inl (R))), (pl, .inl (cI, 4, .inl (P))), (hd, .inl (cI, 4, .inl (Hd))), (ha, .inl (cI, 4, .inl (HA))), (lo, .inl (cI, 4, .inl (upd Lo p (nI 1)))), (ol, .inl (cI, 4, .inl (Ol))), (as_, .inl (cI, 64, .inl (AS)))]) [9, 0, 1, 10, 2, 3, 4, 5, 6, 7, 8] rfl
  have hD := hD.sub (ws' := [(x, .inr (3, [.ref t, .ref z, .int (nI md), .ref rf, .ref rw, .ref pl, .ref hd, .ref ha, .ref lo, .ref ol, .ref as_])), (t, .inl (cI, 192, .inl (flT T))), (z, .inl (cI, 3, .inl (zI Z))), (rf, .inl (cI, 4, .inl (upd RF 0 (RF 0 + nI 1)))), (rw, .inl (cI, 4, .inl (R))), (pl, .inl (cI, 4, .inl (P))), (hd, .inl (cI, 4, .inl (Hd))), (ha, .inl (cI, 4, .inl (HA))), (lo, .inl (cI, 4, .inl (upd Lo p (nI 1)))), (ol, .inl (cI, 4, .inl (Ol))), (as_, .inl (cI, 64, .inl (AS)))]) [9, 0, 1, 10, 2, 3, 4, 5, 6, 7, 8] (by decide) rfl
  exact pw_iret hx hb hr (rfl) hlocks dX3_goes_39 hS hP hD (⟨rfl, rfl⟩)
theorem hf_X3_goes_22 : Cond.fieldLink RX3 22 "PegrowModel" "placeOf" "[I" ∈ wsX3_goes := by decide +kernel
theorem hf_X3_goes_25 : Cond.fieldLink RX3 25 "PegrowModel" "hand" "[I" ∈ wsX3_goes := by decide +kernel
theorem hf_X3_goes_28 : Cond.fieldLink RX3 28 "PegrowModel" "handAt" "[I" ∈ wsX3_goes := by decide +kernel
set_option maxHeartbeats 4000000 in
set_option maxRecDepth 100000 in
theorem m_goes (l : Launch) (D : va_G) (cI cP cR : ClassId) (x t z rf rw pl hd ha lo ol as_ md : Nat) (T : Nat → Nat → Int32) (Z : Nat → Nat) (RF R P Hd HA Lo Ol AS : Nat → Int32) (p i : Nat) (hp4 : p < 4) (hi : i < 3) (hz : Z i ≤ 60) (hR : R p = nI i) (q : Nat) (to_ : Int32) (hq : q < Z i) : pw_Mm l yX3_goes wsX3_goes ({ frames := 1, cells := 0, slots := 0, locals := 22 } : Room) D cI cP cR [.ref x, .int (nI p), .int (nI q), .int (to_)] ([(x, .inr (3, [.ref t, .ref z, .int (nI md), .ref rf, .ref rw, .ref pl, .ref hd, .ref ha, .ref lo, .ref ol, .ref as_])), (t, .inl (cI, 192, .inl (flT T))), (z, .inl (cI, 3, .inl (zI Z))), (rf, .inl (cI, 4, .inl (RF))), (rw, .inl (cI, 4, .inl (R))), (pl, .inl (cI, 4, .inl (P))), (hd, .inl (cI, 4, .inl (Hd))), (ha, .inl (cI, 4, .inl (HA))), (lo, .inl (cI, 4, .inl (Lo))), (ol, .inl (cI, 4, .inl (Ol))), (as_, .inl (cI, 64, .inl (AS)))]) (fun v w => v = some (.int (T i q)) ∧ w = [(x, .inr (3, [.ref t, .ref z, .int (nI md), .ref rf, .ref rw, .ref pl, .ref hd, .ref ha, .ref lo, .ref ol, .ref as_])), (t, .inl (cI, 192, .inl (flT T))), (z, .inl (cI, 3, .inl (zI Z))), (rf, .inl (cI, 4, .inl (RF))), (rw, .inl (cI, 4, .inl (R))), (pl, .inl (cI, 4, .inl (upd P p to_))), (hd, .inl (cI, 4, .inl (upd Hd p (T i q)))), (ha, .inl (cI, 4, .inl (upd HA p (nI q)))), (lo, .inl (cI, 4, .inl (upd Lo p (nI 0)))), (ol, .inl (cI, 4, .inl (Ol))), (as_, .inl (cI, 64, .inl (AS)))]) := by
  refine pw_ofm (cc := cX3_goes) (maxL := 5) (ret := (some .int)) (own := RX3) (by decide +kernel) rfl rfl (Nat.le_of_ble_eq_true rfl) ?_
  intro p_ e_ s m bel meth cd A hE hK hP hD hA hS ls hl
  obtain ⟨hx, hb, hr, hml, hown, hts, hlocks⟩ := hE
  have hNW := hK.2
  have hl : lv_has ls 5 [(0, .ref x), (1, .int (nI p)), (2, .int (nI q)), (3, .int (to_))] := hl
  refine lv_aload_n hx hb dX3_goes_0 rfl (lv_at hl 0 rfl) ?_
  refine va_get (D := D) (ci := 3) (v := .ref rw) (C := RX3) (T := TX3) (N := 11) hx hb hts hi_X3_goes_3 hown hK.1 hP 0 rfl rfl 4 (by decide) (hts _ hf_X3_goes_19) (fun _ h9 => h9) rfl dX3_goes_1 ?_
  refine lv_iload_n hx hb dX3_goes_4 rfl (lv_at hl 1 rfl) ?_
  refine pw_iald hx hb hK.1 hP 4 0 rfl rfl (by decide) (by omega) dX3_goes_5 ?_
  refine pw_top (y := nI i) hR ?_
  refine lv_istore (lv' := [(4, .int (nI i)), (0, .ref x), (1, .int (nI p)), (2, .int (nI q)), (3, .int (to_))]) hx hb dX3_goes_6 hl (by decide) rfl (fun ls hl => ?_)
  refine lv_iload_n hx hb dX3_goes_8 rfl (lv_at hl 3 rfl) ?_
  refine lv_iconst (v := nI 0) hx hb dX3_goes_9 (by decide) ?_
  refine lv_aload_n hx hb dX3_goes_10 rfl (lv_at hl 1 rfl) ?_
  refine va_get (D := D) (ci := 3) (v := .ref z) (C := RX3) (T := TX3) (N := 11) hx hb hts hi_X3_goes_3 hown hK.1 hP 0 rfl rfl 1 (by decide) (hts _ hf_X3_goes_13) (fun _ h9 => h9) rfl dX3_goes_11 ?_
  refine lv_iload hx hb dX3_goes_14 (lv_at hl 0 rfl) ?_
  refine pw_iald hx hb hK.1 hP 2 0 rfl rfl (by decide) (by omega) dX3_goes_16 ?_
  refine pw_top (y := nI (Z i)) rfl ?_
  refine lv_iconst (v := nI 1) hx hb dX3_goes_17 (by decide) ?_
  refine pw_isub hx hb (by omega) dX3_goes_18 ?_
  -- m_in_t
  refine pw_cSp (As := [.int (nI q), .int (nI 0), .int (nI ((Z i) - 1))]) (rest := []) ⟨hx, hb, hml, hown, hts⟩ (m_in_t l D cI cP cR (nI q) (nI 0) (nI ((Z i) - 1)) (⟨pw_ge0 (by omega), (pw_leN (by omega) (by omega)).mpr (by omega)⟩)) (va_cwS 3 hts gX3_goes_X3_in rfl rfl rfl (by decide +kernel) ⟨Nat.le_of_ble_eq_true rfl, Nat.le_of_ble_eq_true rfl⟩) hK rfl hl.1 rfl (Nat.le_of_ble_eq_true rfl) dX3_goes_19 ⟨Nat.zero_le _, Nat.zero_le _⟩ ?_
  refine lv_if_ne (tgt := 40) hx hb dX3_goes_22 (by decide) (fun c => ?_) (fun c => absurd c (by decide))
  refine lv_aload_n hx hb dX3_goes_40 rfl (lv_at hl 1 rfl) ?_
  refine va_get (D := D) (ci := 3) (v := .ref hd) (C := RX3) (T := TX3) (N := 11) hx hb hts hi_X3_goes_3 hown hK.1 hP 0 rfl rfl 6 (by decide) (hts _ hf_X3_goes_25) (fun _ h9 => h9) rfl dX3_goes_41 ?_
  refine lv_iload_n hx hb dX3_goes_44 rfl (lv_at hl 2 rfl) ?_
  refine lv_aload_n hx hb dX3_goes_45 rfl (lv_at hl 1 rfl) ?_
  refine lv_iload hx hb dX3_goes_46 (lv_at hl 0 rfl) ?_
  refine lv_iload_n hx hb dX3_goes_48 rfl (lv_at hl 3 rfl) ?_
  -- m_thing
  refine pw_cVp (As := [.int (nI i), .int (nI q)]) (rest := [.int (nI p), .ref hd]) (wc := [(x, .inr (3, [.ref t, .ref z, .int (nI md), .ref rf, .ref rw, .ref pl, .ref hd, .ref ha, .ref lo, .ref ol, .ref as_])), (t, .inl (cI, 192, .inl (flT T)))]) ⟨hx, hb, hml, hown, hts⟩ (m_thing l D cI cP cR x t z rf rw pl hd ha lo ol as_ md T i q (by omega) (by omega)) (cwV 2 hts gX3_goes_X3_thing rfl rfl rfl (by decide +kernel) ⟨Nat.le_of_ble_eq_true rfl, Nat.le_of_ble_eq_true rfl⟩) hK hP hD [0, 1] rfl (by decide) 0 rfl rfl rfl rfl hl.1 rfl (Nat.le_of_ble_eq_true rfl) dX3_goes_49 ⟨Nat.zero_le _, Nat.zero_le _⟩ ?_
  refine pw_iast hx hb hK.1 hP hD hS 6 0 rfl rfl (by decide) (by omega) dX3_goes_52 (fun H locs hP hD hS => ?_)
  have hP : va_P D vwCl ([(x, .inr (3, [.ref t, .ref z, .int (nI md), .ref rf, .ref rw, .ref pl, .ref hd, .ref ha, .ref lo, .ref ol, .ref as_])), (t, .inl (cI, 192, .inl (flT T))), (z, .inl (cI, 3, .inl (zI Z))), (rf, .inl (cI, 4, .inl (RF))), (rw, .inl (cI, 4, .inl (R))), (pl, .inl (cI, 4, .inl (P))), (hd, .inl (cI, 4, .inl (upd Hd p (T i q)))), (ha, .inl (cI, 4, .inl (HA))), (lo, .inl (cI, 4, .inl (Lo))), (ol, .inl (cI, 4, .inl (Ol))), (as_, .inl (cI, 64, .inl (AS)))]) H := hP
  have hD : va_D A ([(x, .inr (3, [.ref t, .ref z, .int (nI md), .ref rf, .ref rw, .ref pl, .ref hd, .ref ha, .ref lo, .ref ol, .ref as_])), (t, .inl (cI, 192, .inl (flT T))), (z, .inl (cI, 3, .inl (zI Z))), (rf, .inl (cI, 4, .inl (RF))), (rw, .inl (cI, 4, .inl (R))), (pl, .inl (cI, 4, .inl (P))), (hd, .inl (cI, 4, .inl (upd Hd p (T i q)))), (ha, .inl (cI, 4, .inl (HA))), (lo, .inl (cI, 4, .inl (Lo))), (ol, .inl (cI, 4, .inl (Ol))), (as_, .inl (cI, 64, .inl (AS)))]) := hD
  refine lv_aload_n hx hb dX3_goes_53 rfl (lv_at hl 1 rfl) ?_
  refine va_get (D := D) (ci := 3) (v := .ref ha) (C := RX3) (T := TX3) (N := 11) hx hb hts hi_X3_goes_3 hown hK.1 hP 0 rfl rfl 7 (by decide) (hts _ hf_X3_goes_28) (fun _ h9 => h9) rfl dX3_goes_54 ?_
  refine lv_iload_n hx hb dX3_goes_57 rfl (lv_at hl 2 rfl) ?_
  refine lv_iload_n hx hb dX3_goes_58 rfl (lv_at hl 3 rfl) ?_
  refine pw_iast hx hb hK.1 hP hD hS 7 0 rfl rfl (by decide) (by omega) dX3_goes_59 (fun H locs hP hD hS => ?_)
  have hP : va_P D vwCl ([(x, .inr (3, [.ref t, .ref z, .int (nI md), .ref rf, .ref rw, .ref pl, .ref hd, .ref ha, .ref lo, .ref ol, .ref as_])), (t, .inl (cI, 192, .inl (flT T))), (z, .inl (cI, 3, .inl (zI Z))), (rf, .inl (cI, 4, .inl (RF))), (rw, .inl (cI, 4, .inl (R))), (pl, .inl (cI, 4, .inl (P))), (hd, .inl (cI, 4, .inl (upd Hd p (T i q)))), (ha, .inl (cI, 4, .inl (upd HA p (nI q)))), (lo, .inl (cI, 4, .inl (Lo))), (ol, .inl (cI, 4, .inl (Ol))), (as_, .inl (cI, 64, .inl (AS)))]) H := hP
  have hD : va_D A ([(x, .inr (3, [.ref t, .ref z, .int (nI md), .ref rf, .ref rw, .ref pl, .ref hd, .ref ha, .ref lo, .ref ol, .ref as_])), (t, .inl (cI, 192, .inl (flT T))), (z, .inl (cI, 3, .inl (zI Z))), (rf, .inl (cI, 4, .inl (RF))), (rw, .inl (cI, 4, .inl (R))), (pl, .inl (cI, 4, .inl (P))), (hd, .inl (cI, 4, .inl (upd Hd p (T i q)))), (ha, .inl (cI, 4, .inl (upd HA p (nI q)))), (lo, .inl (cI, 4, .inl (Lo))), (ol, .inl (cI, 4, .inl (Ol))), (as_, .inl (cI, 64, .inl (AS)))]) := hD
  refine lv_aload_n hx hb dX3_goes_60 rfl (lv_at hl 1 rfl) ?_
  refine va_get (D := D) (ci := 3) (v := .ref lo) (C := RX3) (T := TX3) (N := 11) hx hb hts hi_X3_goes_3 hown hK.1 hP 0 rfl rfl 8 (by decide) (hts _ hf_X3_goes_31) (fun _ h9 => h9) rfl dX3_goes_61 ?_
  refine lv_iload_n hx hb dX3_goes_64 rfl (lv_at hl 2 rfl) ?_
  refine lv_iconst (v := nI 0) hx hb dX3_goes_65 (by decide) ?_
  refine pw_iast hx hb hK.1 hP hD hS 8 0 rfl rfl (by decide) (by omega) dX3_goes_66 (fun H locs hP hD hS => ?_)
  have hP : va_P D vwCl ([(x, .inr (3, [.ref t, .ref z, .int (nI md), .ref rf, .ref rw, .ref pl, .ref hd, .ref ha, .ref lo, .ref ol, .ref as_])), (t, .inl (cI, 192, .inl (flT T))), (z, .inl (cI, 3, .inl (zI Z))), (rf, .inl (cI, 4, .inl (RF))), (rw, .inl (cI, 4, .inl (R))), (pl, .inl (cI, 4, .inl (P))), (hd, .inl (cI, 4, .inl (upd Hd p (T i q)))), (ha, .inl (cI, 4, .inl (upd HA p (nI q)))), (lo, .inl (cI, 4, .inl (upd Lo p (nI 0)))), (ol, .inl (cI, 4, .inl (Ol))), (as_, .inl (cI, 64, .inl (AS)))]) H := hP
  have hD : va_D A ([(x, .inr (3, [.ref t, .ref z, .int (nI md), .ref rf, .ref rw, .ref pl, .ref hd, .ref ha, .ref lo, .ref ol, .ref as_])), (t, .inl (cI, 192, .inl (flT T))), (z, .inl (cI, 3, .inl (zI Z))), (rf, .inl (cI, 4, .inl (RF))), (rw, .inl (cI, 4, .inl (R))), (pl, .inl (cI, 4, .inl (P))), (hd, .inl (cI, 4, .inl (upd Hd p (T i q)))), (ha, .inl (cI, 4, .inl (upd HA p (nI q)))), (lo, .inl (cI, 4, .inl (upd Lo p (nI 0)))), (ol, .inl (cI, 4, .inl (Ol))), (as_, .inl (cI, 64, .inl (AS)))]) := hD
  refine lv_aload_n hx hb dX3_goes_67 rfl (lv_at hl 1 rfl) ?_
  refine va_get (D := D) (ci := 3) (v := .ref pl) (C := RX3) (T := TX3) (N := 11) hx hb hts hi_X3_goes_3 hown hK.1 hP 0 rfl rfl 5 (by decide) (hts _ hf_X3_goes_22) (fun _ h9 => h9) rfl dX3_goes_68 ?_
  refine lv_iload_n hx hb dX3_goes_71 rfl (lv_at hl 2 rfl) ?_
  refine lv_iload_n hx hb dX3_goes_72 rfl (lv_at hl 4 rfl) ?_
  refine pw_iast hx hb hK.1 hP hD hS 5 0 rfl rfl (by decide) (by omega) dX3_goes_73 (fun H locs hP hD hS => ?_)
  have hP : va_P D vwCl ([(x, .inr (3, [.ref t, .ref z, .int (nI md), .ref rf, .ref rw, .ref pl, .ref hd, .ref ha, .ref lo, .ref ol, .ref as_])), (t, .inl (cI, 192, .inl (flT T))), (z, .inl (cI, 3, .inl (zI Z))), (rf, .inl (cI, 4, .inl (RF))), (rw, .inl (cI, 4, .inl (R))), (pl, .inl (cI, 4, .inl (upd P p to_))), (hd, .inl (cI, 4, .inl (upd Hd p (T i q)))), (ha, .inl (cI, 4, .inl (upd HA p (nI q)))), (lo, .inl (cI, 4, .inl (upd Lo p (nI 0)))), (ol, .inl (cI, 4, .inl (Ol))), (as_, .inl (cI, 64, .inl (AS)))]) H := hP
  have hD : va_D A ([(x, .inr (3, [.ref t, .ref z, .int (nI md), .ref rf, .ref rw, .ref pl, .ref hd, .ref ha, .ref lo, .ref ol, .ref as_])), (t, .inl (cI, 192, .inl (flT T))), (z, .inl (cI, 3, .inl (zI Z))), (rf, .inl (cI, 4, .inl (RF))), (rw, .inl (cI, 4, .inl (R))), (pl, .inl (cI, 4, .inl (upd P p to_))), (hd, .inl (cI, 4, .inl (upd Hd p (T i q)))), (ha, .inl (cI, 4, .inl (upd HA p (nI q)))), (lo, .inl (cI, 4, .inl (upd Lo p (nI 0)))), (ol, .inl (cI, 4, .inl (Ol))), (as_, .inl (cI, 64, .inl (AS)))]) := hD
  refine lv_aload_n hx hb dX3_goes_74 rfl (lv_at hl 1 rfl) ?_
  refine va_get (D := D) (ci := 3) (v := .ref hd) (C := RX3) (T := TX3) (N := 11) hx hb hts hi_X3_goes_3 hown hK.1 hP 0 rfl rfl 6 (by decide) (hts _ hf_X3_goes_25) (fun _ h9 => h9) rfl dX3_goes_75 ?_
  refine lv_iload_n hx hb dX3_goes_78 rfl (lv_at hl 2 rfl) ?_
  refine pw_iald hx hb hK.1 hP 6 0 rfl rfl (by decide) (by omega) dX3_goes_79 ?_
  refine pw_top (y := T i q) (upd_s _ _ _) ?_
  have hP := hP.sub (ws' := [(x, .inr (3, [.ref t, .ref z, .int (nI md), .ref rf, .ref rw, .ref pl, .ref hd, .ref ha, .ref lo, .ref ol, .ref as_])), (t, .inl (cI, 192, .inl (flT T))), (z, .inl (cI, 3, .inl (zI Z))), (rf, .inl (cI, 4, .inl (RF))), (rw, .inl (cI, 4, .inl (R))), (pl, .inl (cI, 4, .inl (upd P p to_))), (hd, .inl (cI, 4, .inl (upd Hd p (T i q)))), (ha, .inl (cI, 4, .inl (upd HA p (nI q)))), (lo, .inl (cI, 4, .inl (upd Lo p (nI 0)))), (ol, .inl (cI, 4, .inl (Ol))), (as_, .inl (cI, 64, .inl (AS)))]) [0, 1, 2, 3, 4, 5, 6, 7, 8, 9, 10] rfl
  have hD := hD.sub (ws' := [(x, .inr (3, [.ref t, .ref z, .int (nI md), .ref rf, .ref rw, .ref pl, .ref hd, .ref ha, .ref lo, .ref ol, .ref as_])), (t, .inl (cI, 192, .inl (flT T))), (z, .inl (cI, 3, .inl (zI Z))), (rf, .inl (cI, 4, .inl (RF))), (rw, .inl (cI, 4, .inl (R))), (pl, .inl (cI, 4, .inl (upd P p to_))), (hd, .inl (cI, 4, .inl (upd Hd p (T i q)))), (ha, .inl (cI, 4, .inl (upd HA p (nI q)))), (lo, .inl (cI, 4, .inl (upd Lo p (nI 0)))), (ol, .inl (cI, 4, .inl (Ol))), (as_, .inl (cI, 64, .inl (AS)))]) [0, 1, 2, 3, 4, 5, 6, 7, 8, 9, 10] (by decide) rfl
  exact pw_iret hx hb hr (rfl) hlocks dX3_goes_80 hS hP hD (⟨rfl, rfl⟩)
set_option maxHeartbeats 4000000 in
set_option maxRecDepth 100000 in
theorem n_next_x (l : Launch) (D : va_G) (cI cP cR : ClassId) (x t z rf rw pl hd ha lo ol as_ md : Nat) (T : Nat → Nat → Int32) (Z : Nat → Nat) (RF R P Hd HA Lo Ol AS : Nat → Int32) (peg : Int32) (hx_peg : ¬ (0 ≤ peg ∧ peg < nI 4)) : pw_Mp l yX3_next wsX3_next ({ frames := 2, cells := 0, slots := 0, locals := 46 } : Room) D cI cP cR [.ref x, .int (peg)] ([(x, .inr (3, [.ref t, .ref z, .int (nI md), .ref rf, .ref rw, .ref pl, .ref hd, .ref ha, .ref lo, .ref ol, .ref as_])), (t, .inl (cI, 192, .inl (flT T))), (z, .inl (cI, 3, .inl (zI Z))), (rf, .inl (cI, 4, .inl (RF))), (rw, .inl (cI, 4, .inl (R))), (pl, .inl (cI, 4, .inl (P))), (hd, .inl (cI, 4, .inl (Hd))), (ha, .inl (cI, 4, .inl (HA))), (lo, .inl (cI, 4, .inl (Lo))), (ol, .inl (cI, 4, .inl (Ol))), (as_, .inl (cI, 64, .inl (AS)))]) (.int (-1)) := by
  refine pw_ofp (cc := cX3_next) (maxL := 3) (ret := (some .int)) (own := RX3) (by decide +kernel) rfl rfl (Nat.le_of_ble_eq_true rfl) ?_
  intro p_ e_ s m bel meth cd hE hK hP hD ls hl
  obtain ⟨hx, hb, hr, hml, hown, hts, hlocks⟩ := hE
  have hNW := hK.2
  have hl : lv_has ls 3 [(0, .ref x), (1, .int (peg))] := hl
  refine lv_iload_n hx hb dX3_next_0 rfl (lv_at hl 1 rfl) ?_
  -- m_isPeg_f
  refine pw_cSp (As := [.int (peg)]) (rest := []) ⟨hx, hb, hml, hown, hts⟩ (m_isPeg_f l D cI cP cR peg hx_peg) (va_cwS 1 hts gX3_next_X3_isPeg rfl rfl rfl (by decide +kernel) ⟨Nat.le_of_ble_eq_true rfl, Nat.le_of_ble_eq_true rfl⟩) hK rfl hl.1 rfl (Nat.le_of_ble_eq_true rfl) dX3_next_1 ⟨Nat.zero_le _, Nat.zero_le _⟩ ?_
  refine lv_if_ne (tgt := 9) hx hb dX3_next_4 (by decide) (fun c => absurd c (by decide)) (fun c => ?_)
  refine lv_iconst (v := -1) hx hb dX3_next_7 (by decide) ?_
  exact pw_piret hx hb hr (rfl) hlocks dX3_next_8 (rfl)
set_option maxHeartbeats 4000000 in
set_option maxRecDepth 100000 in
theorem n_next_n (l : Launch) (D : va_G) (cI cP cR : ClassId) (x t z rf rw pl hd ha lo ol as_ md : Nat) (T : Nat → Nat → Int32) (Z : Nat → Nat) (RF R P Hd HA Lo Ol AS : Nat → Int32) (p : Nat) (hp4 : p < 4) (hR : R p = -1) : pw_Mp l yX3_next wsX3_next ({ frames := 2, cells := 0, slots := 0, locals := 46 } : Room) D cI cP cR [.ref x, .int (nI p)] ([(x, .inr (3, [.ref t, .ref z, .int (nI md), .ref rf, .ref rw, .ref pl, .ref hd, .ref ha, .ref lo, .ref ol, .ref as_])), (t, .inl (cI, 192, .inl (flT T))), (z, .inl (cI, 3, .inl (zI Z))), (rf, .inl (cI, 4, .inl (RF))), (rw, .inl (cI, 4, .inl (R))), (pl, .inl (cI, 4, .inl (P))), (hd, .inl (cI, 4, .inl (Hd))), (ha, .inl (cI, 4, .inl (HA))), (lo, .inl (cI, 4, .inl (Lo))), (ol, .inl (cI, 4, .inl (Ol))), (as_, .inl (cI, 64, .inl (AS)))]) (.int (-2)) := by
  refine pw_ofp (cc := cX3_next) (maxL := 3) (ret := (some .int)) (own := RX3) (by decide +kernel) rfl rfl (Nat.le_of_ble_eq_true rfl) ?_
  intro p_ e_ s m bel meth cd hE hK hP hD ls hl
  obtain ⟨hx, hb, hr, hml, hown, hts, hlocks⟩ := hE
  have hNW := hK.2
  have hl : lv_has ls 3 [(0, .ref x), (1, .int (nI p))] := hl
  refine lv_iload_n hx hb dX3_next_0 rfl (lv_at hl 1 rfl) ?_
  -- m_isPeg_t
  refine pw_cSp (As := [.int (nI p)]) (rest := []) ⟨hx, hb, hml, hown, hts⟩ (m_isPeg_t l D cI cP cR p (by omega)) (va_cwS 1 hts gX3_next_X3_isPeg rfl rfl rfl (by decide +kernel) ⟨Nat.le_of_ble_eq_true rfl, Nat.le_of_ble_eq_true rfl⟩) hK rfl hl.1 rfl (Nat.le_of_ble_eq_true rfl) dX3_next_1 ⟨Nat.zero_le _, Nat.zero_le _⟩ ?_
  refine lv_if_ne (tgt := 9) hx hb dX3_next_4 (by decide) (fun c => ?_) (fun c => absurd c (by decide))
  refine lv_aload_n hx hb dX3_next_9 rfl (lv_at hl 0 rfl) ?_
  refine lv_iload_n hx hb dX3_next_10 rfl (lv_at hl 1 rfl) ?_
  -- m_bars_n
  refine pw_cVp (As := [.int (nI p)]) (rest := []) (wc := [(x, .inr (3, [.ref t, .ref z, .int (nI md), .ref rf, .ref rw, .ref pl, .ref hd, .ref ha, .ref lo, .ref ol, .ref as_])), (rf, .inl (cI, 4, .inl (RF))), (rw, .inl (cI, 4, .inl (R))), (ol, .inl (cI, 4, .inl (Ol)))]) ⟨hx, hb, hml, hown, hts⟩ (m_bars_n l D cI cP cR x t z rf rw pl hd ha lo ol as_ md RF R Ol p (by omega) hR) (cwV 1 hts gX3_next_X3_bars rfl rfl rfl (by decide +kernel) ⟨Nat.le_of_ble_eq_true rfl, Nat.le_of_ble_eq_true rfl⟩) hK hP hD [0, 3, 4, 9] rfl (by decide) 0 rfl rfl rfl rfl hl.1 rfl (Nat.le_of_ble_eq_true rfl) dX3_next_11 ⟨Nat.zero_le _, Nat.zero_le _⟩ ?_
  refine lv_istore_n (lv' := [(2, .int (-2)), (0, .ref x), (1, .int (nI p))]) hx hb dX3_next_14 rfl hl (by decide) rfl (fun ls hl => ?_)
  refine lv_iload_n hx hb dX3_next_15 rfl (lv_at hl 0 rfl) ?_
  refine lv_if_ge (tgt := 23) hx hb dX3_next_16 (by decide) (fun c => absurd c (by decide)) (fun c => ?_)
  refine lv_iload_n hx hb dX3_next_19 rfl (lv_at hl 0 rfl) ?_
  refine lv_goto (tgt := 42) hx hb dX3_next_20 (by decide) ?_
  exact pw_piret hx hb hr (rfl) hlocks dX3_next_42 (rfl)
set_option maxHeartbeats 4000000 in
set_option maxRecDepth 100000 in
theorem n_next_o (l : Launch) (D : va_G) (cI cP cR : ClassId) (x t z rf rw pl hd ha lo ol as_ md : Nat) (T : Nat → Nat → Int32) (Z : Nat → Nat) (RF R P Hd HA Lo Ol AS : Nat → Int32) (p : Nat) (hp4 : p < 4) (hR1 : ¬ R p = -1) (hO : Ol p = nI 1) : pw_Mm l yX3_next wsX3_next ({ frames := 2, cells := 0, slots := 0, locals := 46 } : Room) D cI cP cR [.ref x, .int (nI p)] ([(x, .inr (3, [.ref t, .ref z, .int (nI md), .ref rf, .ref rw, .ref pl, .ref hd, .ref ha, .ref lo, .ref ol, .ref as_])), (t, .inl (cI, 192, .inl (flT T))), (z, .inl (cI, 3, .inl (zI Z))), (rf, .inl (cI, 4, .inl (RF))), (rw, .inl (cI, 4, .inl (R))), (pl, .inl (cI, 4, .inl (P))), (hd, .inl (cI, 4, .inl (Hd))), (ha, .inl (cI, 4, .inl (HA))), (lo, .inl (cI, 4, .inl (Lo))), (ol, .inl (cI, 4, .inl (Ol))), (as_, .inl (cI, 64, .inl (AS)))]) (fun v w => v = some (.int (-4)) ∧ w = [(x, .inr (3, [.ref t, .ref z, .int (nI md), .ref rf, .ref rw, .ref pl, .ref hd, .ref ha, .ref lo, .ref ol, .ref as_])), (t, .inl (cI, 192, .inl (flT T))), (z, .inl (cI, 3, .inl (zI Z))), (rf, .inl (cI, 4, .inl (upd RF 3 (RF 3 + nI 1)))), (rw, .inl (cI, 4, .inl (R))), (pl, .inl (cI, 4, .inl (P))), (hd, .inl (cI, 4, .inl (Hd))), (ha, .inl (cI, 4, .inl (HA))), (lo, .inl (cI, 4, .inl (Lo))), (ol, .inl (cI, 4, .inl (Ol))), (as_, .inl (cI, 64, .inl (AS)))]) := by
  refine pw_ofm (cc := cX3_next) (maxL := 3) (ret := (some .int)) (own := RX3) (by decide +kernel) rfl rfl (Nat.le_of_ble_eq_true rfl) ?_
  intro p_ e_ s m bel meth cd A hE hK hP hD hA hS ls hl
  obtain ⟨hx, hb, hr, hml, hown, hts, hlocks⟩ := hE
  have hNW := hK.2
  have hl : lv_has ls 3 [(0, .ref x), (1, .int (nI p))] := hl
  refine lv_iload_n hx hb dX3_next_0 rfl (lv_at hl 1 rfl) ?_
  -- m_isPeg_t
  refine pw_cSp (As := [.int (nI p)]) (rest := []) ⟨hx, hb, hml, hown, hts⟩ (m_isPeg_t l D cI cP cR p (by omega)) (va_cwS 1 hts gX3_next_X3_isPeg rfl rfl rfl (by decide +kernel) ⟨Nat.le_of_ble_eq_true rfl, Nat.le_of_ble_eq_true rfl⟩) hK rfl hl.1 rfl (Nat.le_of_ble_eq_true rfl) dX3_next_1 ⟨Nat.zero_le _, Nat.zero_le _⟩ ?_
  refine lv_if_ne (tgt := 9) hx hb dX3_next_4 (by decide) (fun c => ?_) (fun c => absurd c (by decide))
  refine lv_aload_n hx hb dX3_next_9 rfl (lv_at hl 0 rfl) ?_
  refine lv_iload_n hx hb dX3_next_10 rfl (lv_at hl 1 rfl) ?_
  -- m_bars_o
  refine pw_cVm (As := [.int (nI p)]) (rest := []) (wc := [(x, .inr (3, [.ref t, .ref z, .int (nI md), .ref rf, .ref rw, .ref pl, .ref hd, .ref ha, .ref lo, .ref ol, .ref as_])), (rf, .inl (cI, 4, .inl (RF))), (rw, .inl (cI, 4, .inl (R))), (ol, .inl (cI, 4, .inl (Ol)))]) (wr := [(t, .inl (cI, 192, .inl (flT T))), (z, .inl (cI, 3, .inl (zI Z))), (pl, .inl (cI, 4, .inl (P))), (hd, .inl (cI, 4, .inl (Hd))), (ha, .inl (cI, 4, .inl (HA))), (lo, .inl (cI, 4, .inl (Lo))), (as_, .inl (cI, 64, .inl (AS)))]) ⟨hx, hb, hml, hown, hts⟩ (m_bars_o l D cI cP cR x t z rf rw pl hd ha lo ol as_ md RF R Ol p (by omega) hR1 hO) (cwV 1 hts gX3_next_X3_bars rfl rfl rfl (by decide +kernel) ⟨Nat.le_of_ble_eq_true rfl, Nat.le_of_ble_eq_true rfl⟩) hK hP hD hS hA [0, 3, 4, 9] [1, 2, 5, 6, 7, 8, 10] rfl rfl (by decide) (by decide) (by decide) 0 rfl rfl rfl rfl hl.1 rfl (Nat.le_of_ble_eq_true rfl) dX3_next_11 ⟨Nat.zero_le _, Nat.zero_le _⟩ (fun v1 w1 H locs hq hP hD hS => ?_)
  rcases hq with ⟨rfl, rfl⟩
  have hP : va_P D vwCl ([(t, .inl (cI, 192, .inl (flT T))), (z, .inl (cI, 3, .inl (zI Z))), (pl, .inl (cI, 4, .inl (P))), (hd, .inl (cI, 4, .inl (Hd))), (ha, .inl (cI, 4, .inl (HA))), (lo, .inl (cI, 4, .inl (Lo))), (as_, .inl (cI, 64, .inl (AS))), (x, .inr (3, [.ref t, .ref z, .int (nI md), .ref rf, .ref rw, .ref pl, .ref hd, .ref ha, .ref lo, .ref ol, .ref as_])), (rf, .inl (cI, 4, .inl (upd RF 3 (RF 3 + nI 1)))), (rw, .inl (cI, 4, .inl (R))), (ol, .inl (cI, 4, .inl (Ol)))]) H := hP
  have hD : va_D A ([(t, .inl (cI, 192, .inl (flT T))), (z, .inl (cI, 3, .inl (zI Z))), (pl, .inl (cI, 4, .inl (P))), (hd, .inl (cI, 4, .inl (Hd))), (ha, .inl (cI, 4, .inl (HA))), (lo, .inl (cI, 4, .inl (Lo))), (as_, .inl (cI, 64, .inl (AS))), (x, .inr (3, [.ref t, .ref z, .int (nI md), .ref rf, .ref rw, .ref pl, .ref hd, .ref ha, .ref lo, .ref ol, .ref as_])), (rf, .inl (cI, 4, .inl (upd RF 3 (RF 3 + nI 1)))), (rw, .inl (cI, 4, .inl (R))), (ol, .inl (cI, 4, .inl (Ol)))]) := hD
  refine W.eq (g2 := F0 m 14 ls [.int (-4)]) rfl ?_
  refine lv_istore_n (lv' := [(2, .int (-4)), (0, .ref x), (1, .int (nI p))]) hx hb dX3_next_14 rfl hl (by decide) rfl (fun ls hl => ?_)
  refine lv_iload_n hx hb dX3_next_15 rfl (lv_at hl 0 rfl) ?_
  refine lv_if_ge (tgt := 23) hx hb dX3_next_16 (by decide) (fun c => absurd c (by decide)) (fun c => ?_)
  refine lv_iload_n hx hb dX3_next_19 rfl (lv_at hl 0 rfl) ?_
  refine lv_goto (tgt := 42) hx hb dX3_next_20 (by decide) ?_
  have hP := hP.sub (ws' := [(x, .inr (3, [.ref t, .ref z, .int (nI md), .ref rf, .ref rw, .ref pl, .ref hd, .ref ha, .ref lo, .ref ol, .ref as_])), (t, .inl (cI, 192, .inl (flT T))), (z, .inl (cI, 3, .inl (zI Z))), (rf, .inl (cI, 4, .inl (upd RF 3 (RF 3 + nI 1)))), (rw, .inl (cI, 4, .inl (R))), (pl, .inl (cI, 4, .inl (P))), (hd, .inl (cI, 4, .inl (Hd))), (ha, .inl (cI, 4, .inl (HA))), (lo, .inl (cI, 4, .inl (Lo))), (ol, .inl (cI, 4, .inl (Ol))), (as_, .inl (cI, 64, .inl (AS)))]) [7, 0, 1, 8, 9, 2, 3, 4, 5, 10, 6] rfl
  have hD := hD.sub (ws' := [(x, .inr (3, [.ref t, .ref z, .int (nI md), .ref rf, .ref rw, .ref pl, .ref hd, .ref ha, .ref lo, .ref ol, .ref as_])), (t, .inl (cI, 192, .inl (flT T))), (z, .inl (cI, 3, .inl (zI Z))), (rf, .inl (cI, 4, .inl (upd RF 3 (RF 3 + nI 1)))), (rw, .inl (cI, 4, .inl (R))), (pl, .inl (cI, 4, .inl (P))), (hd, .inl (cI, 4, .inl (Hd))), (ha, .inl (cI, 4, .inl (HA))), (lo, .inl (cI, 4, .inl (Lo))), (ol, .inl (cI, 4, .inl (Ol))), (as_, .inl (cI, 64, .inl (AS)))]) [7, 0, 1, 8, 9, 2, 3, 4, 5, 10, 6] (by decide) rfl
  exact pw_iret hx hb hr (rfl) hlocks dX3_next_42 hS hP hD (⟨rfl, rfl⟩)
theorem hi_X3_next_3 : ∀ w ∈ u_ws RX3 TX3 11, w ∈ wsX3_next := by decide +kernel
theorem hf_X3_next_22 : Cond.fieldLink RX3 22 "PegrowModel" "placeOf" "[I" ∈ wsX3_next := by decide +kernel
set_option maxHeartbeats 4000000 in
set_option maxRecDepth 100000 in
theorem n_next_e (l : Launch) (D : va_G) (cI cP cR : ClassId) (x t z rf rw pl hd ha lo ol as_ md : Nat) (T : Nat → Nat → Int32) (Z : Nat → Nat) (RF R P Hd HA Lo Ol AS : Nat → Int32) (p i : Nat) (hp4 : p < 4) (hi : i < 3) (hz : Z i ≤ 60) (hR : R p = nI i) (hO : ¬ Ol p = nI 1) (hq : ¬ (0 ≤ P p ∧ P p < nI (Z i))) : pw_Mm l yX3_next wsX3_next ({ frames := 2, cells := 0, slots := 0, locals := 46 } : Room) D cI cP cR [.ref x, .int (nI p)] ([(x, .inr (3, [.ref t, .ref z, .int (nI md), .ref rf, .ref rw, .ref pl, .ref hd, .ref ha, .ref lo, .ref ol, .ref as_])), (t, .inl (cI, 192, .inl (flT T))), (z, .inl (cI, 3, .inl (zI Z))), (rf, .inl (cI, 4, .inl (RF))), (rw, .inl (cI, 4, .inl (R))), (pl, .inl (cI, 4, .inl (P))), (hd, .inl (cI, 4, .inl (Hd))), (ha, .inl (cI, 4, .inl (HA))), (lo, .inl (cI, 4, .inl (Lo))), (ol, .inl (cI, 4, .inl (Ol))), (as_, .inl (cI, 64, .inl (AS)))]) (fun v w => v = some (.int (-6)) ∧ w = [(x, .inr (3, [.ref t, .ref z, .int (nI md), .ref rf, .ref rw, .ref pl, .ref hd, .ref ha, .ref lo, .ref ol, .ref as_])), (t, .inl (cI, 192, .inl (flT T))), (z, .inl (cI, 3, .inl (zI Z))), (rf, .inl (cI, 4, .inl (upd RF 0 (RF 0 + nI 1)))), (rw, .inl (cI, 4, .inl (R))), (pl, .inl (cI, 4, .inl (P))), (hd, .inl (cI, 4, .inl (Hd))), (ha, .inl (cI, 4, .inl (HA))), (lo, .inl (cI, 4, .inl (upd Lo p (nI 1)))), (ol, .inl (cI, 4, .inl (Ol))), (as_, .inl (cI, 64, .inl (AS)))]) := by
  refine pw_ofm (cc := cX3_next) (maxL := 3) (ret := (some .int)) (own := RX3) (by decide +kernel) rfl rfl (Nat.le_of_ble_eq_true rfl) ?_
  intro p_ e_ s m bel meth cd A hE hK hP hD hA hS ls hl
  obtain ⟨hx, hb, hr, hml, hown, hts, hlocks⟩ := hE
  have hNW := hK.2
  have hl : lv_has ls 3 [(0, .ref x), (1, .int (nI p))] := hl
  have hR1 : ¬ R p = -1 := by rw [hR]; exact pw_nm1 (by omega)
  refine lv_iload_n hx hb dX3_next_0 rfl (lv_at hl 1 rfl) ?_
  -- m_isPeg_t
  refine pw_cSp (As := [.int (nI p)]) (rest := []) ⟨hx, hb, hml, hown, hts⟩ (m_isPeg_t l D cI cP cR p (by omega)) (va_cwS 1 hts gX3_next_X3_isPeg rfl rfl rfl (by decide +kernel) ⟨Nat.le_of_ble_eq_true rfl, Nat.le_of_ble_eq_true rfl⟩) hK rfl hl.1 rfl (Nat.le_of_ble_eq_true rfl) dX3_next_1 ⟨Nat.zero_le _, Nat.zero_le _⟩ ?_
  refine lv_if_ne (tgt := 9) hx hb dX3_next_4 (by decide) (fun c => ?_) (fun c => absurd c (by decide))
  refine lv_aload_n hx hb dX3_next_9 rfl (lv_at hl 0 rfl) ?_
  refine lv_iload_n hx hb dX3_next_10 rfl (lv_at hl 1 rfl) ?_
  -- m_bars
  refine pw_cVp (As := [.int (nI p)]) (rest := []) (wc := [(x, .inr (3, [.ref t, .ref z, .int (nI md), .ref rf, .ref rw, .ref pl, .ref hd, .ref ha, .ref lo, .ref ol, .ref as_])), (rf, .inl (cI, 4, .inl (RF))), (rw, .inl (cI, 4, .inl (R))), (ol, .inl (cI, 4, .inl (Ol)))]) ⟨hx, hb, hml, hown, hts⟩ (m_bars l D cI cP cR x t z rf rw pl hd ha lo ol as_ md RF R Ol p (by omega) hR1 hO) (cwV 1 hts gX3_next_X3_bars rfl rfl rfl (by decide +kernel) ⟨Nat.le_of_ble_eq_true rfl, Nat.le_of_ble_eq_true rfl⟩) hK hP hD [0, 3, 4, 9] rfl (by decide) 0 rfl rfl rfl rfl hl.1 rfl (Nat.le_of_ble_eq_true rfl) dX3_next_11 ⟨Nat.zero_le _, Nat.zero_le _⟩ ?_
  refine lv_istore_n (lv' := [(2, .int (nI 0)), (0, .ref x), (1, .int (nI p))]) hx hb dX3_next_14 rfl hl (by decide) rfl (fun ls hl => ?_)
  refine lv_iload_n hx hb dX3_next_15 rfl (lv_at hl 0 rfl) ?_
  refine lv_if_ge (tgt := 23) hx hb dX3_next_16 (by decide) (fun c => ?_) (fun c => absurd c (by decide))
  refine lv_aload_n hx hb dX3_next_23 rfl (lv_at hl 1 rfl) ?_
  refine lv_iload_n hx hb dX3_next_24 rfl (lv_at hl 2 rfl) ?_
  refine lv_aload_n hx hb dX3_next_25 rfl (lv_at hl 1 rfl) ?_
  refine va_get (D := D) (ci := 3) (v := .ref pl) (C := RX3) (T := TX3) (N := 11) hx hb hts hi_X3_next_3 hown hK.1 hP 0 rfl rfl 5 (by decide) (hts _ hf_X3_next_22) (fun _ h9 => h9) rfl dX3_next_26 ?_
  refine lv_iload_n hx hb dX3_next_29 rfl (lv_at hl 2 rfl) ?_
  refine pw_iald hx hb hK.1 hP 5 0 rfl rfl (by decide) (by omega) dX3_next_30 ?_
  refine lv_aload_n hx hb dX3_next_31 rfl (lv_at hl 1 rfl) ?_
  refine va_get (D := D) (ci := 3) (v := .ref pl) (C := RX3) (T := TX3) (N := 11) hx hb hts hi_X3_next_3 hown hK.1 hP 0 rfl rfl 5 (by decide) (hts _ hf_X3_next_22) (fun _ h9 => h9) rfl dX3_next_32 ?_
  refine lv_iload_n hx hb dX3_next_35 rfl (lv_at hl 2 rfl) ?_
  refine pw_iald hx hb hK.1 hP 5 0 rfl rfl (by decide) (by omega) dX3_next_36 ?_
  refine lv_iconst (v := nI 1) hx hb dX3_next_37 (by decide) ?_
  refine lv_iadd hx hb dX3_next_38 ?_
  -- m_goes_e
  refine pw_cVm (As := [.int (nI p), .int (P p), .int ((P p) + (nI 1))]) (rest := []) (wc := [(x, .inr (3, [.ref t, .ref z, .int (nI md), .ref rf, .ref rw, .ref pl, .ref hd, .ref ha, .ref lo, .ref ol, .ref as_])), (t, .inl (cI, 192, .inl (flT T))), (z, .inl (cI, 3, .inl (zI Z))), (rf, .inl (cI, 4, .inl (RF))), (rw, .inl (cI, 4, .inl (R))), (pl, .inl (cI, 4, .inl (P))), (hd, .inl (cI, 4, .inl (Hd))), (ha, .inl (cI, 4, .inl (HA))), (lo, .inl (cI, 4, .inl (Lo))), (ol, .inl (cI, 4, .inl (Ol))), (as_, .inl (cI, 64, .inl (AS)))]) (wr := []) ⟨hx, hb, hml, hown, hts⟩ (m_goes_e l D cI cP cR x t z rf rw pl hd ha lo ol as_ md T Z RF R P Hd HA Lo Ol AS p i (by omega) (by omega) (by omega) hR (P p) (P p + nI 1) hq) (cwV 3 hts gX3_next_X3_goes rfl rfl rfl (by decide +kernel) ⟨Nat.le_of_ble_eq_true rfl, Nat.le_of_ble_eq_true rfl⟩) hK hP hD hS hA [0, 1, 2, 3, 4, 5, 6, 7, 8, 9, 10] [] rfl rfl (by decide) (by decide) (by decide) 0 rfl rfl rfl rfl hl.1 rfl (Nat.le_of_ble_eq_true rfl) dX3_next_39 ⟨Nat.zero_le _, Nat.zero_le _⟩ (fun v1 w1 H locs hq hP hD hS => ?_)
  rcases hq with ⟨rfl, rfl⟩
  have hP : va_P D vwCl ([(x, .inr (3, [.ref t, .ref z, .int (nI md), .ref rf, .ref rw, .ref pl, .ref hd, .ref ha, .ref lo, .ref ol, .ref as_])), (t, .inl (cI, 192, .inl (flT T))), (z, .inl (cI, 3, .inl (zI Z))), (rf, .inl (cI, 4, .inl (upd RF 0 (RF 0 + nI 1)))), (rw, .inl (cI, 4, .inl (R))), (pl, .inl (cI, 4, .inl (P))), (hd, .inl (cI, 4, .inl (Hd))), (ha, .inl (cI, 4, .inl (HA))), (lo, .inl (cI, 4, .inl (upd Lo p (nI 1)))), (ol, .inl (cI, 4, .inl (Ol))), (as_, .inl (cI, 64, .inl (AS)))]) H := hP
  have hD : va_D A ([(x, .inr (3, [.ref t, .ref z, .int (nI md), .ref rf, .ref rw, .ref pl, .ref hd, .ref ha, .ref lo, .ref ol, .ref as_])), (t, .inl (cI, 192, .inl (flT T))), (z, .inl (cI, 3, .inl (zI Z))), (rf, .inl (cI, 4, .inl (upd RF 0 (RF 0 + nI 1)))), (rw, .inl (cI, 4, .inl (R))), (pl, .inl (cI, 4, .inl (P))), (hd, .inl (cI, 4, .inl (Hd))), (ha, .inl (cI, 4, .inl (HA))), (lo, .inl (cI, 4, .inl (upd Lo p (nI 1)))), (ol, .inl (cI, 4, .inl (Ol))), (as_, .inl (cI, 64, .inl (AS)))]) := hD
  refine W.eq (g2 := F0 m 42 ls [.int (-6)]) rfl ?_
  have hP := hP.sub (ws' := [(x, .inr (3, [.ref t, .ref z, .int (nI md), .ref rf, .ref rw, .ref pl, .ref hd, .ref ha, .ref lo, .ref ol, .ref as_])), (t, .inl (cI, 192, .inl (flT T))), (z, .inl (cI, 3, .inl (zI Z))), (rf, .inl (cI, 4, .inl (upd RF 0 (RF 0 + nI 1)))), (rw, .inl (cI, 4, .inl (R))), (pl, .inl (cI, 4, .inl (P))), (hd, .inl (cI, 4, .inl (Hd))), (ha, .inl (cI, 4, .inl (HA))), (lo, .inl (cI, 4, .inl (upd Lo p (nI 1)))), (ol, .inl (cI, 4, .inl (Ol))), (as_, .inl (cI, 64, .inl (AS)))]) [0, 1, 2, 3, 4, 5, 6, 7, 8, 9, 10] rfl
  have hD := hD.sub (ws' := [(x, .inr (3, [.ref t, .ref z, .int (nI md), .ref rf, .ref rw, .ref pl, .ref hd, .ref ha, .ref lo, .ref ol, .ref as_])), (t, .inl (cI, 192, .inl (flT T))), (z, .inl (cI, 3, .inl (zI Z))), (rf, .inl (cI, 4, .inl (upd RF 0 (RF 0 + nI 1)))), (rw, .inl (cI, 4, .inl (R))), (pl, .inl (cI, 4, .inl (P))), (hd, .inl (cI, 4, .inl (Hd))), (ha, .inl (cI, 4, .inl (HA))), (lo, .inl (cI, 4, .inl (upd Lo p (nI 1)))), (ol, .inl (cI, 4, .inl (Ol))), (as_, .inl (cI, 64, .inl (AS)))]) [0, 1, 2, 3, 4, 5, 6, 7, 8, 9, 10] (by decide) rfl
  exact pw_iret hx hb hr (rfl) hlocks dX3_next_42 hS hP hD (⟨rfl, rfl⟩)
set_option maxHeartbeats 4000000 in
set_option maxRecDepth 100000 in
theorem n_next (l : Launch) (D : va_G) (cI cP cR : ClassId) (x t z rf rw pl hd ha lo ol as_ md : Nat) (T : Nat → Nat → Int32) (Z : Nat → Nat) (RF R P Hd HA Lo Ol AS : Nat → Int32) (p i : Nat) (hp4 : p < 4) (hi : i < 3) (hz : Z i ≤ 60) (hR : R p = nI i) (hO : ¬ Ol p = nI 1) (q : Nat) (hPq : P p = nI (q)) (hq : q < Z i) : pw_Mm l yX3_next wsX3_next ({ frames := 2, cells := 0, slots := 0, locals := 46 } : Room) D cI cP cR [.ref x, .int (nI p)] ([(x, .inr (3, [.ref t, .ref z, .int (nI md), .ref rf, .ref rw, .ref pl, .ref hd, .ref ha, .ref lo, .ref ol, .ref as_])), (t, .inl (cI, 192, .inl (flT T))), (z, .inl (cI, 3, .inl (zI Z))), (rf, .inl (cI, 4, .inl (RF))), (rw, .inl (cI, 4, .inl (R))), (pl, .inl (cI, 4, .inl (P))), (hd, .inl (cI, 4, .inl (Hd))), (ha, .inl (cI, 4, .inl (HA))), (lo, .inl (cI, 4, .inl (Lo))), (ol, .inl (cI, 4, .inl (Ol))), (as_, .inl (cI, 64, .inl (AS)))]) (fun v w => v = some (.int (T i q)) ∧ w = [(x, .inr (3, [.ref t, .ref z, .int (nI md), .ref rf, .ref rw, .ref pl, .ref hd, .ref ha, .ref lo, .ref ol, .ref as_])), (t, .inl (cI, 192, .inl (flT T))), (z, .inl (cI, 3, .inl (zI Z))), (rf, .inl (cI, 4, .inl (RF))), (rw, .inl (cI, 4, .inl (R))), (pl, .inl (cI, 4, .inl (upd P p (nI (q + 1))))), (hd, .inl (cI, 4, .inl (upd Hd p (T i q)))), (ha, .inl (cI, 4, .inl (upd HA p (nI q)))), (lo, .inl (cI, 4, .inl (upd Lo p (nI 0)))), (ol, .inl (cI, 4, .inl (Ol))), (as_, .inl (cI, 64, .inl (AS)))]) := by
  refine pw_ofm (cc := cX3_next) (maxL := 3) (ret := (some .int)) (own := RX3) (by decide +kernel) rfl rfl (Nat.le_of_ble_eq_true rfl) ?_
  intro p_ e_ s m bel meth cd A hE hK hP hD hA hS ls hl
  obtain ⟨hx, hb, hr, hml, hown, hts, hlocks⟩ := hE
  have hNW := hK.2
  have hl : lv_has ls 3 [(0, .ref x), (1, .int (nI p))] := hl
  have hR1 : ¬ R p = -1 := by rw [hR]; exact pw_nm1 (by omega)
  refine lv_iload_n hx hb dX3_next_0 rfl (lv_at hl 1 rfl) ?_
  -- m_isPeg_t
  refine pw_cSp (As := [.int (nI p)]) (rest := []) ⟨hx, hb, hml, hown, hts⟩ (m_isPeg_t l D cI cP cR p (by omega)) (va_cwS 1 hts gX3_next_X3_isPeg rfl rfl rfl (by decide +kernel) ⟨Nat.le_of_ble_eq_true rfl, Nat.le_of_ble_eq_true rfl⟩) hK rfl hl.1 rfl (Nat.le_of_ble_eq_true rfl) dX3_next_1 ⟨Nat.zero_le _, Nat.zero_le _⟩ ?_
  refine lv_if_ne (tgt := 9) hx hb dX3_next_4 (by decide) (fun c => ?_) (fun c => absurd c (by decide))
  refine lv_aload_n hx hb dX3_next_9 rfl (lv_at hl 0 rfl) ?_
  refine lv_iload_n hx hb dX3_next_10 rfl (lv_at hl 1 rfl) ?_
  -- m_bars
  refine pw_cVp (As := [.int (nI p)]) (rest := []) (wc := [(x, .inr (3, [.ref t, .ref z, .int (nI md), .ref rf, .ref rw, .ref pl, .ref hd, .ref ha, .ref lo, .ref ol, .ref as_])), (rf, .inl (cI, 4, .inl (RF))), (rw, .inl (cI, 4, .inl (R))), (ol, .inl (cI, 4, .inl (Ol)))]) ⟨hx, hb, hml, hown, hts⟩ (m_bars l D cI cP cR x t z rf rw pl hd ha lo ol as_ md RF R Ol p (by omega) hR1 hO) (cwV 1 hts gX3_next_X3_bars rfl rfl rfl (by decide +kernel) ⟨Nat.le_of_ble_eq_true rfl, Nat.le_of_ble_eq_true rfl⟩) hK hP hD [0, 3, 4, 9] rfl (by decide) 0 rfl rfl rfl rfl hl.1 rfl (Nat.le_of_ble_eq_true rfl) dX3_next_11 ⟨Nat.zero_le _, Nat.zero_le _⟩ ?_
  refine lv_istore_n (lv' := [(2, .int (nI 0)), (0, .ref x), (1, .int (nI p))]) hx hb dX3_next_14 rfl hl (by decide) rfl (fun ls hl => ?_)
  refine lv_iload_n hx hb dX3_next_15 rfl (lv_at hl 0 rfl) ?_
  refine lv_if_ge (tgt := 23) hx hb dX3_next_16 (by decide) (fun c => ?_) (fun c => absurd c (by decide))
  refine lv_aload_n hx hb dX3_next_23 rfl (lv_at hl 1 rfl) ?_
  refine lv_iload_n hx hb dX3_next_24 rfl (lv_at hl 2 rfl) ?_
  refine lv_aload_n hx hb dX3_next_25 rfl (lv_at hl 1 rfl) ?_
  refine va_get (D := D) (ci := 3) (v := .ref pl) (C := RX3) (T := TX3) (N := 11) hx hb hts hi_X3_next_3 hown hK.1 hP 0 rfl rfl 5 (by decide) (hts _ hf_X3_next_22) (fun _ h9 => h9) rfl dX3_next_26 ?_
  refine lv_iload_n hx hb dX3_next_29 rfl (lv_at hl 2 rfl) ?_
  refine pw_iald hx hb hK.1 hP 5 0 rfl rfl (by decide) (by omega) dX3_next_30 ?_
  refine pw_top (y := nI q) hPq ?_
  refine lv_aload_n hx hb dX3_next_31 rfl (lv_at hl 1 rfl) ?_
  refine va_get (D := D) (ci := 3) (v := .ref pl) (C := RX3) (T := TX3) (N := 11) hx hb hts hi_X3_next_3 hown hK.1 hP 0 rfl rfl 5 (by decide) (hts _ hf_X3_next_22) (fun _ h9 => h9) rfl dX3_next_32 ?_
  refine lv_iload_n hx hb dX3_next_35 rfl (lv_at hl 2 rfl) ?_
  refine pw_iald hx hb hK.1 hP 5 0 rfl rfl (by decide) (by omega) dX3_next_36 ?_
  refine pw_top (y := nI q) hPq ?_
  refine lv_iconst (v := nI 1) hx hb dX3_next_37 (by decide) ?_
  refine pw_iadd hx hb dX3_next_38 ?_
  -- m_goes
  refine pw_cVm (As := [.int (nI p), .int (nI q), .int (nI (q + 1))]) (rest := []) (wc := [(x, .inr (3, [.ref t, .ref z, .int (nI md), .ref rf, .ref rw, .ref pl, .ref hd, .ref ha, .ref lo, .ref ol, .ref as_])), (t, .inl (cI, 192, .inl (flT T))), (z, .inl (cI, 3, .inl (zI Z))), (rf, .inl (cI, 4, .inl (RF))), (rw, .inl (cI, 4, .inl (R))), (pl, .inl (cI, 4, .inl (P))), (hd, .inl (cI, 4, .inl (Hd))), (ha, .inl (cI, 4, .inl (HA))), (lo, .inl (cI, 4, .inl (Lo))), (ol, .inl (cI, 4, .inl (Ol))), (as_, .inl (cI, 64, .inl (AS)))]) (wr := []) ⟨hx, hb, hml, hown, hts⟩ (m_goes l D cI cP cR x t z rf rw pl hd ha lo ol as_ md T Z RF R P Hd HA Lo Ol AS p i (by omega) (by omega) (by omega) hR q (nI (q + 1)) (by omega)) (cwV 3 hts gX3_next_X3_goes rfl rfl rfl (by decide +kernel) ⟨Nat.le_of_ble_eq_true rfl, Nat.le_of_ble_eq_true rfl⟩) hK hP hD hS hA [0, 1, 2, 3, 4, 5, 6, 7, 8, 9, 10] [] rfl rfl (by decide) (by decide) (by decide) 0 rfl rfl rfl rfl hl.1 rfl (Nat.le_of_ble_eq_true rfl) dX3_next_39 ⟨Nat.zero_le _, Nat.zero_le _⟩ (fun v1 w1 H locs hq hP hD hS => ?_)
  rcases hq with ⟨rfl, rfl⟩
  have hP : va_P D vwCl ([(x, .inr (3, [.ref t, .ref z, .int (nI md), .ref rf, .ref rw, .ref pl, .ref hd, .ref ha, .ref lo, .ref ol, .ref as_])), (t, .inl (cI, 192, .inl (flT T))), (z, .inl (cI, 3, .inl (zI Z))), (rf, .inl (cI, 4, .inl (RF))), (rw, .inl (cI, 4, .inl (R))), (pl, .inl (cI, 4, .inl (upd P p (nI (q + 1))))), (hd, .inl (cI, 4, .inl (upd Hd p (T i q)))), (ha, .inl (cI, 4, .inl (upd HA p (nI q)))), (lo, .inl (cI, 4, .inl (upd Lo p (nI 0)))), (ol, .inl (cI, 4, .inl (Ol))), (as_, .inl (cI, 64, .inl (AS)))]) H := hP
  have hD : va_D A ([(x, .inr (3, [.ref t, .ref z, .int (nI md), .ref rf, .ref rw, .ref pl, .ref hd, .ref ha, .ref lo, .ref ol, .ref as_])), (t, .inl (cI, 192, .inl (flT T))), (z, .inl (cI, 3, .inl (zI Z))), (rf, .inl (cI, 4, .inl (RF))), (rw, .inl (cI, 4, .inl (R))), (pl, .inl (cI, 4, .inl (upd P p (nI (q + 1))))), (hd, .inl (cI, 4, .inl (upd Hd p (T i q)))), (ha, .inl (cI, 4, .inl (upd HA p (nI q)))), (lo, .inl (cI, 4, .inl (upd Lo p (nI 0)))), (ol, .inl (cI, 4, .inl (Ol))), (as_, .inl (cI, 64, .inl (AS)))]) := hD
  refine W.eq (g2 := F0 m 42 ls [.int (T i q)]) rfl ?_
  have hP := hP.sub (ws' := [(x, .inr (3, [.ref t, .ref z, .int (nI md), .ref rf, .ref rw, .ref pl, .ref hd, .ref ha, .ref lo, .ref ol, .ref as_])), (t, .inl (cI, 192, .inl (flT T))), (z, .inl (cI, 3, .inl (zI Z))), (rf, .inl (cI, 4, .inl (RF))), (rw, .inl (cI, 4, .inl (R))), (pl, .inl (cI, 4, .inl (upd P p (nI (q + 1))))), (hd, .inl (cI, 4, .inl (upd Hd p (T i q)))), (ha, .inl (cI, 4, .inl (upd HA p (nI q)))), (lo, .inl (cI, 4, .inl (upd Lo p (nI 0)))), (ol, .inl (cI, 4, .inl (Ol))), (as_, .inl (cI, 64, .inl (AS)))]) [0, 1, 2, 3, 4, 5, 6, 7, 8, 9, 10] rfl
  have hD := hD.sub (ws' := [(x, .inr (3, [.ref t, .ref z, .int (nI md), .ref rf, .ref rw, .ref pl, .ref hd, .ref ha, .ref lo, .ref ol, .ref as_])), (t, .inl (cI, 192, .inl (flT T))), (z, .inl (cI, 3, .inl (zI Z))), (rf, .inl (cI, 4, .inl (RF))), (rw, .inl (cI, 4, .inl (R))), (pl, .inl (cI, 4, .inl (upd P p (nI (q + 1))))), (hd, .inl (cI, 4, .inl (upd Hd p (T i q)))), (ha, .inl (cI, 4, .inl (upd HA p (nI q)))), (lo, .inl (cI, 4, .inl (upd Lo p (nI 0)))), (ol, .inl (cI, 4, .inl (Ol))), (as_, .inl (cI, 64, .inl (AS)))]) [0, 1, 2, 3, 4, 5, 6, 7, 8, 9, 10] (by decide) rfl
  exact pw_iret hx hb hr (rfl) hlocks dX3_next_42 hS hP hD (⟨rfl, rfl⟩)
set_option maxHeartbeats 4000000 in
set_option maxRecDepth 100000 in
theorem n_previous_x (l : Launch) (D : va_G) (cI cP cR : ClassId) (x t z rf rw pl hd ha lo ol as_ md : Nat) (T : Nat → Nat → Int32) (Z : Nat → Nat) (RF R P Hd HA Lo Ol AS : Nat → Int32) (peg : Int32) (hx_peg : ¬ (0 ≤ peg ∧ peg < nI 4)) : pw_Mp l yX3_previous wsX3_previous ({ frames := 2, cells := 0, slots := 0, locals := 46 } : Room) D cI cP cR [.ref x, .int (peg)] ([(x, .inr (3, [.ref t, .ref z, .int (nI md), .ref rf, .ref rw, .ref pl, .ref hd, .ref ha, .ref lo, .ref ol, .ref as_])), (t, .inl (cI, 192, .inl (flT T))), (z, .inl (cI, 3, .inl (zI Z))), (rf, .inl (cI, 4, .inl (RF))), (rw, .inl (cI, 4, .inl (R))), (pl, .inl (cI, 4, .inl (P))), (hd, .inl (cI, 4, .inl (Hd))), (ha, .inl (cI, 4, .inl (HA))), (lo, .inl (cI, 4, .inl (Lo))), (ol, .inl (cI, 4, .inl (Ol))), (as_, .inl (cI, 64, .inl (AS)))]) (.int (-1)) := by
  refine pw_ofp (cc := cX3_previous) (maxL := 3) (ret := (some .int)) (own := RX3) (by decide +kernel) rfl rfl (Nat.le_of_ble_eq_true rfl) ?_
  intro p_ e_ s m bel meth cd hE hK hP hD ls hl
  obtain ⟨hx, hb, hr, hml, hown, hts, hlocks⟩ := hE
  have hNW := hK.2
  have hl : lv_has ls 3 [(0, .ref x), (1, .int (peg))] := hl
  refine lv_iload_n hx hb dX3_previous_0 rfl (lv_at hl 1 rfl) ?_
  -- m_isPeg_f
  refine pw_cSp (As := [.int (peg)]) (rest := []) ⟨hx, hb, hml, hown, hts⟩ (m_isPeg_f l D cI cP cR peg hx_peg) (va_cwS 1 hts gX3_previous_X3_isPeg rfl rfl rfl (by decide +kernel) ⟨Nat.le_of_ble_eq_true rfl, Nat.le_of_ble_eq_true rfl⟩) hK rfl hl.1 rfl (Nat.le_of_ble_eq_true rfl) dX3_previous_1 ⟨Nat.zero_le _, Nat.zero_le _⟩ ?_
  refine lv_if_ne (tgt := 9) hx hb dX3_previous_4 (by decide) (fun c => absurd c (by decide)) (fun c => ?_)
  refine lv_iconst (v := -1) hx hb dX3_previous_7 (by decide) ?_
  exact pw_piret hx hb hr (rfl) hlocks dX3_previous_8 (rfl)
set_option maxHeartbeats 4000000 in
set_option maxRecDepth 100000 in
theorem n_previous_n (l : Launch) (D : va_G) (cI cP cR : ClassId) (x t z rf rw pl hd ha lo ol as_ md : Nat) (T : Nat → Nat → Int32) (Z : Nat → Nat) (RF R P Hd HA Lo Ol AS : Nat → Int32) (p : Nat) (hp4 : p < 4) (hR : R p = -1) : pw_Mp l yX3_previous wsX3_previous ({ frames := 2, cells := 0, slots := 0, locals := 46 } : Room) D cI cP cR [.ref x, .int (nI p)] ([(x, .inr (3, [.ref t, .ref z, .int (nI md), .ref rf, .ref rw, .ref pl, .ref hd, .ref ha, .ref lo, .ref ol, .ref as_])), (t, .inl (cI, 192, .inl (flT T))), (z, .inl (cI, 3, .inl (zI Z))), (rf, .inl (cI, 4, .inl (RF))), (rw, .inl (cI, 4, .inl (R))), (pl, .inl (cI, 4, .inl (P))), (hd, .inl (cI, 4, .inl (Hd))), (ha, .inl (cI, 4, .inl (HA))), (lo, .inl (cI, 4, .inl (Lo))), (ol, .inl (cI, 4, .inl (Ol))), (as_, .inl (cI, 64, .inl (AS)))]) (.int (-2)) := by
  refine pw_ofp (cc := cX3_previous) (maxL := 3) (ret := (some .int)) (own := RX3) (by decide +kernel) rfl rfl (Nat.le_of_ble_eq_true rfl) ?_
  intro p_ e_ s m bel meth cd hE hK hP hD ls hl
  obtain ⟨hx, hb, hr, hml, hown, hts, hlocks⟩ := hE
  have hNW := hK.2
  have hl : lv_has ls 3 [(0, .ref x), (1, .int (nI p))] := hl
  refine lv_iload_n hx hb dX3_previous_0 rfl (lv_at hl 1 rfl) ?_
  -- m_isPeg_t
  refine pw_cSp (As := [.int (nI p)]) (rest := []) ⟨hx, hb, hml, hown, hts⟩ (m_isPeg_t l D cI cP cR p (by omega)) (va_cwS 1 hts gX3_previous_X3_isPeg rfl rfl rfl (by decide +kernel) ⟨Nat.le_of_ble_eq_true rfl, Nat.le_of_ble_eq_true rfl⟩) hK rfl hl.1 rfl (Nat.le_of_ble_eq_true rfl) dX3_previous_1 ⟨Nat.zero_le _, Nat.zero_le _⟩ ?_
  refine lv_if_ne (tgt := 9) hx hb dX3_previous_4 (by decide) (fun c => ?_) (fun c => absurd c (by decide))
  refine lv_aload_n hx hb dX3_previous_9 rfl (lv_at hl 0 rfl) ?_
  refine lv_iload_n hx hb dX3_previous_10 rfl (lv_at hl 1 rfl) ?_
  -- m_bars_n
  refine pw_cVp (As := [.int (nI p)]) (rest := []) (wc := [(x, .inr (3, [.ref t, .ref z, .int (nI md), .ref rf, .ref rw, .ref pl, .ref hd, .ref ha, .ref lo, .ref ol, .ref as_])), (rf, .inl (cI, 4, .inl (RF))), (rw, .inl (cI, 4, .inl (R))), (ol, .inl (cI, 4, .inl (Ol)))]) ⟨hx, hb, hml, hown, hts⟩ (m_bars_n l D cI cP cR x t z rf rw pl hd ha lo ol as_ md RF R Ol p (by omega) hR) (cwV 1 hts gX3_previous_X3_bars rfl rfl rfl (by decide +kernel) ⟨Nat.le_of_ble_eq_true rfl, Nat.le_of_ble_eq_true rfl⟩) hK hP hD [0, 3, 4, 9] rfl (by decide) 0 rfl rfl rfl rfl hl.1 rfl (Nat.le_of_ble_eq_true rfl) dX3_previous_11 ⟨Nat.zero_le _, Nat.zero_le _⟩ ?_
  refine lv_istore_n (lv' := [(2, .int (-2)), (0, .ref x), (1, .int (nI p))]) hx hb dX3_previous_14 rfl hl (by decide) rfl (fun ls hl => ?_)
  refine lv_iload_n hx hb dX3_previous_15 rfl (lv_at hl 0 rfl) ?_
  refine lv_if_ge (tgt := 23) hx hb dX3_previous_16 (by decide) (fun c => absurd c (by decide)) (fun c => ?_)
  refine lv_iload_n hx hb dX3_previous_19 rfl (lv_at hl 0 rfl) ?_
  refine lv_goto (tgt := 44) hx hb dX3_previous_20 (by decide) ?_
  exact pw_piret hx hb hr (rfl) hlocks dX3_previous_44 (rfl)
set_option maxHeartbeats 4000000 in
set_option maxRecDepth 100000 in
theorem n_previous_o (l : Launch) (D : va_G) (cI cP cR : ClassId) (x t z rf rw pl hd ha lo ol as_ md : Nat) (T : Nat → Nat → Int32) (Z : Nat → Nat) (RF R P Hd HA Lo Ol AS : Nat → Int32) (p : Nat) (hp4 : p < 4) (hR1 : ¬ R p = -1) (hO : Ol p = nI 1) : pw_Mm l yX3_previous wsX3_previous ({ frames := 2, cells := 0, slots := 0, locals := 46 } : Room) D cI cP cR [.ref x, .int (nI p)] ([(x, .inr (3, [.ref t, .ref z, .int (nI md), .ref rf, .ref rw, .ref pl, .ref hd, .ref ha, .ref lo, .ref ol, .ref as_])), (t, .inl (cI, 192, .inl (flT T))), (z, .inl (cI, 3, .inl (zI Z))), (rf, .inl (cI, 4, .inl (RF))), (rw, .inl (cI, 4, .inl (R))), (pl, .inl (cI, 4, .inl (P))), (hd, .inl (cI, 4, .inl (Hd))), (ha, .inl (cI, 4, .inl (HA))), (lo, .inl (cI, 4, .inl (Lo))), (ol, .inl (cI, 4, .inl (Ol))), (as_, .inl (cI, 64, .inl (AS)))]) (fun v w => v = some (.int (-4)) ∧ w = [(x, .inr (3, [.ref t, .ref z, .int (nI md), .ref rf, .ref rw, .ref pl, .ref hd, .ref ha, .ref lo, .ref ol, .ref as_])), (t, .inl (cI, 192, .inl (flT T))), (z, .inl (cI, 3, .inl (zI Z))), (rf, .inl (cI, 4, .inl (upd RF 3 (RF 3 + nI 1)))), (rw, .inl (cI, 4, .inl (R))), (pl, .inl (cI, 4, .inl (P))), (hd, .inl (cI, 4, .inl (Hd))), (ha, .inl (cI, 4, .inl (HA))), (lo, .inl (cI, 4, .inl (Lo))), (ol, .inl (cI, 4, .inl (Ol))), (as_, .inl (cI, 64, .inl (AS)))]) := by
  refine pw_ofm (cc := cX3_previous) (maxL := 3) (ret := (some .int)) (own := RX3) (by decide +kernel) rfl rfl (Nat.le_of_ble_eq_true rfl) ?_
  intro p_ e_ s m bel meth cd A hE hK hP hD hA hS ls hl
  obtain ⟨hx, hb, hr, hml, hown, hts, hlocks⟩ := hE
  have hNW := hK.2
  have hl : lv_has ls 3 [(0, .ref x), (1, .int (nI p))] := hl
  refine lv_iload_n hx hb dX3_previous_0 rfl (lv_at hl 1 rfl) ?_
  -- m_isPeg_t
  refine pw_cSp (As := [.int (nI p)]) (rest := []) ⟨hx, hb, hml, hown, hts⟩ (m_isPeg_t l D cI cP cR p (by omega)) (va_cwS 1 hts gX3_previous_X3_isPeg rfl rfl rfl (by decide +kernel) ⟨Nat.le_of_ble_eq_true rfl, Nat.le_of_ble_eq_true rfl⟩) hK rfl hl.1 rfl (Nat.le_of_ble_eq_true rfl) dX3_previous_1 ⟨Nat.zero_le _, Nat.zero_le _⟩ ?_
  refine lv_if_ne (tgt := 9) hx hb dX3_previous_4 (by decide) (fun c => ?_) (fun c => absurd c (by decide))
  refine lv_aload_n hx hb dX3_previous_9 rfl (lv_at hl 0 rfl) ?_
  refine lv_iload_n hx hb dX3_previous_10 rfl (lv_at hl 1 rfl) ?_
  -- m_bars_o
  refine pw_cVm (As := [.int (nI p)]) (rest := []) (wc := [(x, .inr (3, [.ref t, .ref z, .int (nI md), .ref rf, .ref rw, .ref pl, .ref hd, .ref ha, .ref lo, .ref ol, .ref as_])), (rf, .inl (cI, 4, .inl (RF))), (rw, .inl (cI, 4, .inl (R))), (ol, .inl (cI, 4, .inl (Ol)))]) (wr := [(t, .inl (cI, 192, .inl (flT T))), (z, .inl (cI, 3, .inl (zI Z))), (pl, .inl (cI, 4, .inl (P))), (hd, .inl (cI, 4, .inl (Hd))), (ha, .inl (cI, 4, .inl (HA))), (lo, .inl (cI, 4, .inl (Lo))), (as_, .inl (cI, 64, .inl (AS)))]) ⟨hx, hb, hml, hown, hts⟩ (m_bars_o l D cI cP cR x t z rf rw pl hd ha lo ol as_ md RF R Ol p (by omega) hR1 hO) (cwV 1 hts gX3_previous_X3_bars rfl rfl rfl (by decide +kernel) ⟨Nat.le_of_ble_eq_true rfl, Nat.le_of_ble_eq_true rfl⟩) hK hP hD hS hA [0, 3, 4, 9] [1, 2, 5, 6, 7, 8, 10] rfl rfl (by decide) (by decide) (by decide) 0 rfl rfl rfl rfl hl.1 rfl (Nat.le_of_ble_eq_true rfl) dX3_previous_11 ⟨Nat.zero_le _, Nat.zero_le _⟩ (fun v1 w1 H locs hq hP hD hS => ?_)
  rcases hq with ⟨rfl, rfl⟩
  have hP : va_P D vwCl ([(t, .inl (cI, 192, .inl (flT T))), (z, .inl (cI, 3, .inl (zI Z))), (pl, .inl (cI, 4, .inl (P))), (hd, .inl (cI, 4, .inl (Hd))), (ha, .inl (cI, 4, .inl (HA))), (lo, .inl (cI, 4, .inl (Lo))), (as_, .inl (cI, 64, .inl (AS))), (x, .inr (3, [.ref t, .ref z, .int (nI md), .ref rf, .ref rw, .ref pl, .ref hd, .ref ha, .ref lo, .ref ol, .ref as_])), (rf, .inl (cI, 4, .inl (upd RF 3 (RF 3 + nI 1)))), (rw, .inl (cI, 4, .inl (R))), (ol, .inl (cI, 4, .inl (Ol)))]) H := hP
  have hD : va_D A ([(t, .inl (cI, 192, .inl (flT T))), (z, .inl (cI, 3, .inl (zI Z))), (pl, .inl (cI, 4, .inl (P))), (hd, .inl (cI, 4, .inl (Hd))), (ha, .inl (cI, 4, .inl (HA))), (lo, .inl (cI, 4, .inl (Lo))), (as_, .inl (cI, 64, .inl (AS))), (x, .inr (3, [.ref t, .ref z, .int (nI md), .ref rf, .ref rw, .ref pl, .ref hd, .ref ha, .ref lo, .ref ol, .ref as_])), (rf, .inl (cI, 4, .inl (upd RF 3 (RF 3 + nI 1)))), (rw, .inl (cI, 4, .inl (R))), (ol, .inl (cI, 4, .inl (Ol)))]) := hD
  refine W.eq (g2 := F0 m 14 ls [.int (-4)]) rfl ?_
  refine lv_istore_n (lv' := [(2, .int (-4)), (0, .ref x), (1, .int (nI p))]) hx hb dX3_previous_14 rfl hl (by decide) rfl (fun ls hl => ?_)
  refine lv_iload_n hx hb dX3_previous_15 rfl (lv_at hl 0 rfl) ?_
  refine lv_if_ge (tgt := 23) hx hb dX3_previous_16 (by decide) (fun c => absurd c (by decide)) (fun c => ?_)
  refine lv_iload_n hx hb dX3_previous_19 rfl (lv_at hl 0 rfl) ?_
  refine lv_goto (tgt := 44) hx hb dX3_previous_20 (by decide) ?_
  have hP := hP.sub (ws' := [(x, .inr (3, [.ref t, .ref z, .int (nI md), .ref rf, .ref rw, .ref pl, .ref hd, .ref ha, .ref lo, .ref ol, .ref as_])), (t, .inl (cI, 192, .inl (flT T))), (z, .inl (cI, 3, .inl (zI Z))), (rf, .inl (cI, 4, .inl (upd RF 3 (RF 3 + nI 1)))), (rw, .inl (cI, 4, .inl (R))), (pl, .inl (cI, 4, .inl (P))), (hd, .inl (cI, 4, .inl (Hd))), (ha, .inl (cI, 4, .inl (HA))), (lo, .inl (cI, 4, .inl (Lo))), (ol, .inl (cI, 4, .inl (Ol))), (as_, .inl (cI, 64, .inl (AS)))]) [7, 0, 1, 8, 9, 2, 3, 4, 5, 10, 6] rfl
  have hD := hD.sub (ws' := [(x, .inr (3, [.ref t, .ref z, .int (nI md), .ref rf, .ref rw, .ref pl, .ref hd, .ref ha, .ref lo, .ref ol, .ref as_])), (t, .inl (cI, 192, .inl (flT T))), (z, .inl (cI, 3, .inl (zI Z))), (rf, .inl (cI, 4, .inl (upd RF 3 (RF 3 + nI 1)))), (rw, .inl (cI, 4, .inl (R))), (pl, .inl (cI, 4, .inl (P))), (hd, .inl (cI, 4, .inl (Hd))), (ha, .inl (cI, 4, .inl (HA))), (lo, .inl (cI, 4, .inl (Lo))), (ol, .inl (cI, 4, .inl (Ol))), (as_, .inl (cI, 64, .inl (AS)))]) [7, 0, 1, 8, 9, 2, 3, 4, 5, 10, 6] (by decide) rfl
  exact pw_iret hx hb hr (rfl) hlocks dX3_previous_44 hS hP hD (⟨rfl, rfl⟩)
theorem hi_X3_previous_3 : ∀ w ∈ u_ws RX3 TX3 11, w ∈ wsX3_previous := by decide +kernel
theorem hf_X3_previous_22 : Cond.fieldLink RX3 22 "PegrowModel" "placeOf" "[I" ∈ wsX3_previous := by decide +kernel
set_option maxHeartbeats 4000000 in
set_option maxRecDepth 100000 in
theorem n_previous_e (l : Launch) (D : va_G) (cI cP cR : ClassId) (x t z rf rw pl hd ha lo ol as_ md : Nat) (T : Nat → Nat → Int32) (Z : Nat → Nat) (RF R P Hd HA Lo Ol AS : Nat → Int32) (p i : Nat) (hp4 : p < 4) (hi : i < 3) (hz : Z i ≤ 60) (hR : R p = nI i) (hO : ¬ Ol p = nI 1) (hq : ¬ (0 ≤ P p - nI 1 ∧ P p - nI 1 < nI (Z i))) : pw_Mm l yX3_previous wsX3_previous ({ frames := 2, cells := 0, slots := 0, locals := 46 } : Room) D cI cP cR [.ref x, .int (nI p)] ([(x, .inr (3, [.ref t, .ref z, .int (nI md), .ref rf, .ref rw, .ref pl, .ref hd, .ref ha, .ref lo, .ref ol, .ref as_])), (t, .inl (cI, 192, .inl (flT T))), (z, .inl (cI, 3, .inl (zI Z))), (rf, .inl (cI, 4, .inl (RF))), (rw, .inl (cI, 4, .inl (R))), (pl, .inl (cI, 4, .inl (P))), (hd, .inl (cI, 4, .inl (Hd))), (ha, .inl (cI, 4, .inl (HA))), (lo, .inl (cI, 4, .inl (Lo))), (ol, .inl (cI, 4, .inl (Ol))), (as_, .inl (cI, 64, .inl (AS)))]) (fun v w => v = some (.int (-6)) ∧ w = [(x, .inr (3, [.ref t, .ref z, .int (nI md), .ref rf, .ref rw, .ref pl, .ref hd, .ref ha, .ref lo, .ref ol, .ref as_])), (t, .inl (cI, 192, .inl (flT T))), (z, .inl (cI, 3, .inl (zI Z))), (rf, .inl (cI, 4, .inl (upd RF 0 (RF 0 + nI 1)))), (rw, .inl (cI, 4, .inl (R))), (pl, .inl (cI, 4, .inl (P))), (hd, .inl (cI, 4, .inl (Hd))), (ha, .inl (cI, 4, .inl (HA))), (lo, .inl (cI, 4, .inl (upd Lo p (nI 1)))), (ol, .inl (cI, 4, .inl (Ol))), (as_, .inl (cI, 64, .inl (AS)))]) := by
  refine pw_ofm (cc := cX3_previous) (maxL := 3) (ret := (some .int)) (own := RX3) (by decide +kernel) rfl rfl (Nat.le_of_ble_eq_true rfl) ?_
  intro p_ e_ s m bel meth cd A hE hK hP hD hA hS ls hl
  obtain ⟨hx, hb, hr, hml, hown, hts, hlocks⟩ := hE
  have hNW := hK.2
  have hl : lv_has ls 3 [(0, .ref x), (1, .int (nI p))] := hl
  have hR1 : ¬ R p = -1 := by rw [hR]; exact pw_nm1 (by omega)
  refine lv_iload_n hx hb dX3_previous_0 rfl (lv_at hl 1 rfl) ?_
  -- m_isPeg_t
  refine pw_cSp (As := [.int (nI p)]) (rest := []) ⟨hx, hb, hml, hown, hts⟩ (m_isPeg_t l D cI cP cR p (by omega)) (va_cwS 1 hts gX3_previous_X3_isPeg rfl rfl rfl (by decide +kernel) ⟨Nat.le_of_ble_eq_true rfl, Nat.le_of_ble_eq_true rfl⟩) hK rfl hl.1 rfl (Nat.le_of_ble_eq_true rfl) dX3_previous_1 ⟨Nat.zero_le _, Nat.zero_le _⟩ ?_
  refine lv_if_ne (tgt := 9) hx hb dX3_previous_4 (by decide) (fun c => ?_) (fun c => absurd c (by decide))
  refine lv_aload_n hx hb dX3_previous_9 rfl (lv_at hl 0 rfl) ?_
  refine lv_iload_n hx hb dX3_previous_10 rfl (lv_at hl 1 rfl) ?_
  -- m_bars
  refine pw_cVp (As := [.int (nI p)]) (rest := []) (wc := [(x, .inr (3, [.ref t, .ref z, .int (nI md), .ref rf, .ref rw, .ref pl, .ref hd, .ref ha, .ref lo, .ref ol, .ref as_])), (rf, .inl (cI, 4, .inl (RF))), (rw, .inl (cI, 4, .inl (R))), (ol, .inl (cI, 4, .inl (Ol)))]) ⟨hx, hb, hml, hown, hts⟩ (m_bars l D cI cP cR x t z rf rw pl hd ha lo ol as_ md RF R Ol p (by omega) hR1 hO) (cwV 1 hts gX3_previous_X3_bars rfl rfl rfl (by decide +kernel) ⟨Nat.le_of_ble_eq_true rfl, Nat.le_of_ble_eq_true rfl⟩) hK hP hD [0, 3, 4, 9] rfl (by decide) 0 rfl rfl rfl rfl hl.1 rfl (Nat.le_of_ble_eq_true rfl) dX3_previous_11 ⟨Nat.zero_le _, Nat.zero_le _⟩ ?_
  refine lv_istore_n (lv' := [(2, .int (nI 0)), (0, .ref x), (1, .int (nI p))]) hx hb dX3_previous_14 rfl hl (by decide) rfl (fun ls hl => ?_)
  refine lv_iload_n hx hb dX3_previous_15 rfl (lv_at hl 0 rfl) ?_
  refine lv_if_ge (tgt := 23) hx hb dX3_previous_16 (by decide) (fun c => ?_) (fun c => absurd c (by decide))
  refine lv_aload_n hx hb dX3_previous_23 rfl (lv_at hl 1 rfl) ?_
  refine lv_iload_n hx hb dX3_previous_24 rfl (lv_at hl 2 rfl) ?_
  refine lv_aload_n hx hb dX3_previous_25 rfl (lv_at hl 1 rfl) ?_
  refine va_get (D := D) (ci := 3) (v := .ref pl) (C := RX3) (T := TX3) (N := 11) hx hb hts hi_X3_previous_3 hown hK.1 hP 0 rfl rfl 5 (by decide) (hts _ hf_X3_previous_22) (fun _ h9 => h9) rfl dX3_previous_26 ?_
  refine lv_iload_n hx hb dX3_previous_29 rfl (lv_at hl 2 rfl) ?_
  refine pw_iald hx hb hK.1 hP 5 0 rfl rfl (by decide) (by omega) dX3_previous_30 ?_
  refine lv_iconst (v := nI 1) hx hb dX3_previous_31 (by decide) ?_
  refine lv_isub hx hb dX3_previous_32 ?_
  refine lv_aload_n hx hb dX3_previous_33 rfl (lv_at hl 1 rfl) ?_
  refine va_get (D := D) (ci := 3) (v := .ref pl) (C := RX3) (T := TX3) (N := 11) hx hb hts hi_X3_previous_3 hown hK.1 hP 0 rfl rfl 5 (by decide) (hts _ hf_X3_previous_22) (fun _ h9 => h9) rfl dX3_previous_34 ?_
  refine lv_iload_n hx hb dX3_previous_37 rfl (lv_at hl 2 rfl) ?_
  refine pw_iald hx hb hK.1 hP 5 0 rfl rfl (by decide) (by omega) dX3_previous_38 ?_
  refine lv_iconst (v := nI 1) hx hb dX3_previous_39 (by decide) ?_
  refine lv_isub hx hb dX3_previous_40 ?_
  -- m_goes_e
  refine pw_cVm (As := [.int (nI p), .int ((P p) - (nI 1)), .int ((P p) - (nI 1))]) (rest := []) (wc := [(x, .inr (3, [.ref t, .ref z, .int (nI md), .ref rf, .ref rw, .ref pl, .ref hd, .ref ha, .ref lo, .ref ol, .ref as_])), (t, .inl (cI, 192, .inl (flT T))), (z, .inl (cI, 3, .inl (zI Z))), (rf, .inl (cI, 4, .inl (RF))), (rw, .inl (cI, 4, .inl (R))), (pl, .inl (cI, 4, .inl (P))), (hd, .inl (cI, 4, .inl (Hd))), (ha, .inl (cI, 4, .inl (HA))), (lo, .inl (cI, 4, .inl (Lo))), (ol, .inl (cI, 4, .inl (Ol))), (as_, .inl (cI, 64, .inl (AS)))]) (wr := []) ⟨hx, hb, hml, hown, hts⟩ (m_goes_e l D cI cP cR x t z rf rw pl hd ha lo ol as_ md T Z RF R P Hd HA Lo Ol AS p i (by omega) (by omega) (by omega) hR (P p - nI 1) (P p - nI 1) hq) (cwV 3 hts gX3_previous_X3_goes rfl rfl rfl (by decide +kernel) ⟨Nat.le_of_ble_eq_true rfl, Nat.le_of_ble_eq_true rfl⟩) hK hP hD hS hA [0, 1, 2, 3, 4, 5, 6, 7, 8, 9, 10] [] rfl rfl (by decide) (by decide) (by decide) 0 rfl rfl rfl rfl hl.1 rfl (Nat.le_of_ble_eq_true rfl) dX3_previous_41 ⟨Nat.zero_le _, Nat.zero_le _⟩ (fun v1 w1 H locs hq hP hD hS => ?_)
  rcases hq with ⟨rfl, rfl⟩
  have hP : va_P D vwCl ([(x, .inr (3, [.ref t, .ref z, .int (nI md), .ref rf, .ref rw, .ref pl, .ref hd, .ref ha, .ref lo, .ref ol, .ref as_])), (t, .inl (cI, 192, .inl (flT T))), (z, .inl (cI, 3, .inl (zI Z))), (rf, .inl (cI, 4, .inl (upd RF 0 (RF 0 + nI 1)))), (rw, .inl (cI, 4, .inl (R))), (pl, .inl (cI, 4, .inl (P))), (hd, .inl (cI, 4, .inl (Hd))), (ha, .inl (cI, 4, .inl (HA))), (lo, .inl (cI, 4, .inl (upd Lo p (nI 1)))), (ol, .inl (cI, 4, .inl (Ol))), (as_, .inl (cI, 64, .inl (AS)))]) H := hP
  have hD : va_D A ([(x, .inr (3, [.ref t, .ref z, .int (nI md), .ref rf, .ref rw, .ref pl, .ref hd, .ref ha, .ref lo, .ref ol, .ref as_])), (t, .inl (cI, 192, .inl (flT T))), (z, .inl (cI, 3, .inl (zI Z))), (rf, .inl (cI, 4, .inl (upd RF 0 (RF 0 + nI 1)))), (rw, .inl (cI, 4, .inl (R))), (pl, .inl (cI, 4, .inl (P))), (hd, .inl (cI, 4, .inl (Hd))), (ha, .inl (cI, 4, .inl (HA))), (lo, .inl (cI, 4, .inl (upd Lo p (nI 1)))), (ol, .inl (cI, 4, .inl (Ol))), (as_, .inl (cI, 64, .inl (AS)))]) := hD
  refine W.eq (g2 := F0 m 44 ls [.int (-6)]) rfl ?_
  have hP := hP.sub (ws' := [(x, .inr (3, [.ref t, .ref z, .int (nI md), .ref rf, .ref rw, .ref pl, .ref hd, .ref ha, .ref lo, .ref ol, .ref as_])), (t, .inl (cI, 192, .inl (flT T))), (z, .inl (cI, 3, .inl (zI Z))), (rf, .inl (cI, 4, .inl (upd RF 0 (RF 0 + nI 1)))), (rw, .inl (cI, 4, .inl (R))), (pl, .inl (cI, 4, .inl (P))), (hd, .inl (cI, 4, .inl (Hd))), (ha, .inl (cI, 4, .inl (HA))), (lo, .inl (cI, 4, .inl (upd Lo p (nI 1)))), (ol, .inl (cI, 4, .inl (Ol))), (as_, .inl (cI, 64, .inl (AS)))]) [0, 1, 2, 3, 4, 5, 6, 7, 8, 9, 10] rfl
  have hD := hD.sub (ws' := [(x, .inr (3, [.ref t, .ref z, .int (nI md), .ref rf, .ref rw, .ref pl, .ref hd, .ref ha, .ref lo, .ref ol, .ref as_])), (t, .inl (cI, 192, .inl (flT T))), (z, .inl (cI, 3, .inl (zI Z))), (rf, .inl (cI, 4, .inl (upd RF 0 (RF 0 + nI 1)))), (rw, .inl (cI, 4, .inl (R))), (pl, .inl (cI, 4, .inl (P))), (hd, .inl (cI, 4, .inl (Hd))), (ha, .inl (cI, 4, .inl (HA))), (lo, .inl (cI, 4, .inl (upd Lo p (nI 1)))), (ol, .inl (cI, 4, .inl (Ol))), (as_, .inl (cI, 64, .inl (AS)))]) [0, 1, 2, 3, 4, 5, 6, 7, 8, 9, 10] (by decide) rfl
  exact pw_iret hx hb hr (rfl) hlocks dX3_previous_44 hS hP hD (⟨rfl, rfl⟩)
set_option maxHeartbeats 4000000 in
set_option maxRecDepth 100000 in
theorem n_previous (l : Launch) (D : va_G) (cI cP cR : ClassId) (x t z rf rw pl hd ha lo ol as_ md : Nat) (T : Nat → Nat → Int32) (Z : Nat → Nat) (RF R P Hd HA Lo Ol AS : Nat → Int32) (p i : Nat) (hp4 : p < 4) (hi : i < 3) (hz : Z i ≤ 60) (hR : R p = nI i) (hO : ¬ Ol p = nI 1) (q : Nat) (hPq : P p = nI (q + 1)) (hq : q < Z i) : pw_Mm l yX3_previous wsX3_previous ({ frames := 2, cells := 0, slots := 0, locals := 46 } : Room) D cI cP cR [.ref x, .int (nI p)] ([(x, .inr (3, [.ref t, .ref z, .int (nI md), .ref rf, .ref rw, .ref pl, .ref hd, .ref ha, .ref lo, .ref ol, .ref as_])), (t, .inl (cI, 192, .inl (flT T))), (z, .inl (cI, 3, .inl (zI Z))), (rf, .inl (cI, 4, .inl (RF))), (rw, .inl (cI, 4, .inl (R))), (pl, .inl (cI, 4, .inl (P))), (hd, .inl (cI, 4, .inl (Hd))), (ha, .inl (cI, 4, .inl (HA))), (lo, .inl (cI, 4, .inl (Lo))), (ol, .inl (cI, 4, .inl (Ol))), (as_, .inl (cI, 64, .inl (AS)))]) (fun v w => v = some (.int (T i q)) ∧ w = [(x, .inr (3, [.ref t, .ref z, .int (nI md), .ref rf, .ref rw, .ref pl, .ref hd, .ref ha, .ref lo, .ref ol, .ref as_])), (t, .inl (cI, 192, .inl (flT T))), (z, .inl (cI, 3, .inl (zI Z))), (rf, .inl (cI, 4, .inl (RF))), (rw, .inl (cI, 4, .inl (R))), (pl, .inl (cI, 4, .inl (upd P p (nI q)))), (hd, .inl (cI, 4, .inl (upd Hd p (T i q)))), (ha, .inl (cI, 4, .inl (upd HA p (nI q)))), (lo, .inl (cI, 4, .inl (upd Lo p (nI 0)))), (ol, .inl (cI, 4, .inl (Ol))), (as_, .inl (cI, 64, .inl (AS)))]) := by
  refine pw_ofm (cc := cX3_previous) (maxL := 3) (ret := (some .int)) (own := RX3) (by decide +kernel) rfl rfl (Nat.le_of_ble_eq_true rfl) ?_
  intro p_ e_ s m bel meth cd A hE hK hP hD hA hS ls hl
  obtain ⟨hx, hb, hr, hml, hown, hts, hlocks⟩ := hE
  have hNW := hK.2
  have hl : lv_has ls 3 [(0, .ref x), (1, .int (nI p))] := hl
  have hR1 : ¬ R p = -1 := by rw [hR]; exact pw_nm1 (by omega)
  refine lv_iload_n hx hb dX3_previous_0 rfl (lv_at hl 1 rfl) ?_
  -- m_isPeg_t
  refine pw_cSp (As := [.int (nI p)]) (rest := []) ⟨hx, hb, hml, hown, hts⟩ (m_isPeg_t l D cI cP cR p (by omega)) (va_cwS 1 hts gX3_previous_X3_isPeg rfl rfl rfl (by decide +kernel) ⟨Nat.le_of_ble_eq_true rfl, Nat.le_of_ble_eq_true rfl⟩) hK rfl hl.1 rfl (Nat.le_of_ble_eq_true rfl) dX3_previous_1 ⟨Nat.zero_le _, Nat.zero_le _⟩ ?_
  refine lv_if_ne (tgt := 9) hx hb dX3_previous_4 (by decide) (fun c => ?_) (fun c => absurd c (by decide))
  refine lv_aload_n hx hb dX3_previous_9 rfl (lv_at hl 0 rfl) ?_
  refine lv_iload_n hx hb dX3_previous_10 rfl (lv_at hl 1 rfl) ?_
  -- m_bars
  refine pw_cVp (As := [.int (nI p)]) (rest := []) (wc := [(x, .inr (3, [.ref t, .ref z, .int (nI md), .ref rf, .ref rw, .ref pl, .ref hd, .ref ha, .ref lo, .ref ol, .ref as_])), (rf, .inl (cI, 4, .inl (RF))), (rw, .inl (cI, 4, .inl (R))), (ol, .inl (cI, 4, .inl (Ol)))]) ⟨hx, hb, hml, hown, hts⟩ (m_bars l D cI cP cR x t z rf rw pl hd ha lo ol as_ md RF R Ol p (by omega) hR1 hO) (cwV 1 hts gX3_previous_X3_bars rfl rfl rfl (by decide +kernel) ⟨Nat.le_of_ble_eq_true rfl, Nat.le_of_ble_eq_true rfl⟩) hK hP hD [0, 3, 4, 9] rfl (by decide) 0 rfl rfl rfl rfl hl.1 rfl (Nat.le_of_ble_eq_true rfl) dX3_previous_11 ⟨Nat.zero_le _, Nat.zero_le _⟩ ?_
  refine lv_istore_n (lv' := [(2, .int (nI 0)), (0, .ref x), (1, .int (nI p))]) hx hb dX3_previous_14 rfl hl (by decide) rfl (fun ls hl => ?_)
  refine lv_iload_n hx hb dX3_previous_15 rfl (lv_at hl 0 rfl) ?_
  refine lv_if_ge (tgt := 23) hx hb dX3_previous_16 (by decide) (fun c => ?_) (fun c => absurd c (by decide))
  refine lv_aload_n hx hb dX3_previous_23 rfl (lv_at hl 1 rfl) ?_
  refine lv_iload_n hx hb dX3_previous_24 rfl (lv_at hl 2 rfl) ?_
  refine lv_aload_n hx hb dX3_previous_25 rfl (lv_at hl 1 rfl) ?_
  refine va_get (D := D) (ci := 3) (v := .ref pl) (C := RX3) (T := TX3) (N := 11) hx hb hts hi_X3_previous_3 hown hK.1 hP 0 rfl rfl 5 (by decide) (hts _ hf_X3_previous_22) (fun _ h9 => h9) rfl dX3_previous_26 ?_
  refine lv_iload_n hx hb dX3_previous_29 rfl (lv_at hl 2 rfl) ?_
  refine pw_iald hx hb hK.1 hP 5 0 rfl rfl (by decide) (by omega) dX3_previous_30 ?_
  refine pw_top (y := nI (q + 1)) hPq ?_
  refine lv_iconst (v := nI 1) hx hb dX3_previous_31 (by decide) ?_
  refine pw_isub hx hb (by omega) dX3_previous_32 ?_
  refine pw_top (y := nI q) rfl ?_
  refine lv_aload_n hx hb dX3_previous_33 rfl (lv_at hl 1 rfl) ?_
  refine va_get (D := D) (ci := 3) (v := .ref pl) (C := RX3) (T := TX3) (N := 11) hx hb hts hi_X3_previous_3 hown hK.1 hP 0 rfl rfl 5 (by decide) (hts _ hf_X3_previous_22) (fun _ h9 => h9) rfl dX3_previous_34 ?_
  refine lv_iload_n hx hb dX3_previous_37 rfl (lv_at hl 2 rfl) ?_
  refine pw_iald hx hb hK.1 hP 5 0 rfl rfl (by decide) (by omega) dX3_previous_38 ?_
  refine pw_top (y := nI (q + 1)) hPq ?_
  refine lv_iconst (v := nI 1) hx hb dX3_previous_39 (by decide) ?_
  refine pw_isub hx hb (by omega) dX3_previous_40 ?_
  refine pw_top (y := nI q) rfl ?_
  -- m_goes
  refine pw_cVm (As := [.int (nI p), .int (nI q), .int (nI q)]) (rest := []) (wc := [(x, .inr (3, [.ref t, .ref z, .int (nI md), .ref rf, .ref rw, .ref pl, .ref hd, .ref ha, .ref lo, .ref ol, .ref as_])), (t, .inl (cI, 192, .inl (flT T))), (z, .inl (cI, 3, .inl (zI Z))), (rf, .inl (cI, 4, .inl (RF))), (rw, .inl (cI, 4, .inl (R))), (pl, .inl (cI, 4, .inl (P))), (hd, .inl (cI, 4, .inl (Hd))), (ha, .inl (cI, 4, .inl (HA))), (lo, .inl (cI, 4, .inl (Lo))), (ol, .inl (cI, 4, .inl (Ol))), (as_, .inl (cI, 64, .inl (AS)))]) (wr := []) ⟨hx, hb, hml, hown, hts⟩ (m_goes l D cI cP cR x t z rf rw pl hd ha lo ol as_ md T Z RF R P Hd HA Lo Ol AS p i (by omega) (by omega) (by omega) hR q (nI q) (by omega)) (cwV 3 hts gX3_previous_X3_goes rfl rfl rfl (by decide +kernel) ⟨Nat.le_of_ble_eq_true rfl, Nat.le_of_ble_eq_true rfl⟩) hK hP hD hS hA [0, 1, 2, 3, 4, 5, 6, 7, 8, 9, 10] [] rfl rfl (by decide) (by decide) (by decide) 0 rfl rfl rfl rfl hl.1 rfl (Nat.le_of_ble_eq_true rfl) dX3_previous_41 ⟨Nat.zero_le _, Nat.zero_le _⟩ (fun v1 w1 H locs hq hP hD hS => ?_)
  rcases hq with ⟨rfl, rfl⟩
  have hP : va_P D vwCl ([(x, .inr (3, [.ref t, .ref z, .int (nI md), .ref rf, .ref rw, .ref pl, .ref hd, .ref ha, .ref lo, .ref ol, .ref as_])), (t, .inl (cI, 192, .inl (flT T))), (z, .inl (cI, 3, .inl (zI Z))), (rf, .inl (cI, 4, .inl (RF))), (rw, .inl (cI, 4, .inl (R))), (pl, .inl (cI, 4, .inl (upd P p (nI q)))), (hd, .inl (cI, 4, .inl (upd Hd p (T i q)))), (ha, .inl (cI, 4, .inl (upd HA p (nI q)))), (lo, .inl (cI, 4, .inl (upd Lo p (nI 0)))), (ol, .inl (cI, 4, .inl (Ol))), (as_, .inl (cI, 64, .inl (AS)))]) H := hP
  have hD : va_D A ([(x, .inr (3, [.ref t, .ref z, .int (nI md), .ref rf, .ref rw, .ref pl, .ref hd, .ref ha, .ref lo, .ref ol, .ref as_])), (t, .inl (cI, 192, .inl (flT T))), (z, .inl (cI, 3, .inl (zI Z))), (rf, .inl (cI, 4, .inl (RF))), (rw, .inl (cI, 4, .inl (R))), (pl, .inl (cI, 4, .inl (upd P p (nI q)))), (hd, .inl (cI, 4, .inl (upd Hd p (T i q)))), (ha, .inl (cI, 4, .inl (upd HA p (nI q)))), (lo, .inl (cI, 4, .inl (upd Lo p (nI 0)))), (ol, .inl (cI, 4, .inl (Ol))), (as_, .inl (cI, 64, .inl (AS)))]) := hD
  refine W.eq (g2 := F0 m 44 ls [.int (T i q)]) rfl ?_
  have hP := hP.sub (ws' := [(x, .inr (3, [.ref t, .ref z, .int (nI md), .ref rf, .ref rw, .ref pl, .ref hd, .ref ha, .ref lo, .ref ol, .ref as_])), (t, .inl (cI, 192, .inl (flT T))), (z, .inl (cI, 3, .inl (zI Z))), (rf, .inl (cI, 4, .inl (RF))), (rw, .inl (cI, 4, .inl (R))), (pl, .inl (cI, 4, .inl (upd P p (nI q)))), (hd, .inl (cI, 4, .inl (upd Hd p (T i q)))), (ha, .inl (cI, 4, .inl (upd HA p (nI q)))), (lo, .inl (cI, 4, .inl (upd Lo p (nI 0)))), (ol, .inl (cI, 4, .inl (Ol))), (as_, .inl (cI, 64, .inl (AS)))]) [0, 1, 2, 3, 4, 5, 6, 7, 8, 9, 10] rfl
  have hD := hD.sub (ws' := [(x, .inr (3, [.ref t, .ref z, .int (nI md), .ref rf, .ref rw, .ref pl, .ref hd, .ref ha, .ref lo, .ref ol, .ref as_])), (t, .inl (cI, 192, .inl (flT T))), (z, .inl (cI, 3, .inl (zI Z))), (rf, .inl (cI, 4, .inl (RF))), (rw, .inl (cI, 4, .inl (R))), (pl, .inl (cI, 4, .inl (upd P p (nI q)))), (hd, .inl (cI, 4, .inl (upd Hd p (T i q)))), (ha, .inl (cI, 4, .inl (upd HA p (nI q)))), (lo, .inl (cI, 4, .inl (upd Lo p (nI 0)))), (ol, .inl (cI, 4, .inl (Ol))), (as_, .inl (cI, 64, .inl (AS)))]) [0, 1, 2, 3, 4, 5, 6, 7, 8, 9, 10] (by decide) rfl
  exact pw_iret hx hb hr (rfl) hlocks dX3_previous_44 hS hP hD (⟨rfl, rfl⟩)
set_option maxHeartbeats 4000000 in
set_option maxRecDepth 100000 in
theorem n_side_x (l : Launch) (D : va_G) (cI cP cR : ClassId) (x t z rf rw pl hd ha lo ol as_ md : Nat) (T : Nat → Nat → Int32) (Z : Nat → Nat) (RF R P Hd HA Lo Ol AS : Nat → Int32) (peg wh : Int32) (hbad : ¬ ((0 ≤ peg ∧ peg < nI 4) ∧ (0 ≤ wh ∧ wh ≤ nI 3))) : pw_Mp l yX3_side wsX3_side ({ frames := 3, cells := 0, slots := 0, locals := 65 } : Room) D cI cP cR [.ref x, .int (peg), .int (wh)] ([(x, .inr (3, [.ref t, .ref z, .int (nI md), .ref rf, .ref rw, .ref pl, .ref hd, .ref ha, .ref lo, .ref ol, .ref as_])), (t, .inl (cI, 192, .inl (flT T))), (z, .inl (cI, 3, .inl (zI Z))), (rf, .inl (cI, 4, .inl (RF))), (rw, .inl (cI, 4, .inl (R))), (pl, .inl (cI, 4, .inl (P))), (hd, .inl (cI, 4, .inl (Hd))), (ha, .inl (cI, 4, .inl (HA))), (lo, .inl (cI, 4, .inl (Lo))), (ol, .inl (cI, 4, .inl (Ol))), (as_, .inl (cI, 64, .inl (AS)))]) (.int (-1)) := by
  refine pw_ofp (cc := cX3_side) (maxL := 4) (ret := (some .int)) (own := RX3) (by decide +kernel) rfl rfl (Nat.le_of_ble_eq_true rfl) ?_
  intro p_ e_ s m bel meth cd hE hK hP hD ls hl
  obtain ⟨hx, hb, hr, hml, hown, hts, hlocks⟩ := hE
  have hNW := hK.2
  have hl : lv_has ls 4 [(0, .ref x), (1, .int (peg)), (2, .int (wh))] := hl
  by_cases hx_peg : 0 ≤ peg ∧ peg < nI 4
  · obtain ⟨pj_1, hpj_1, rfl⟩ := pw_inP (by decide) hx_peg
    refine lv_iload_n hx hb dX3_side_0 rfl (lv_at hl 1 rfl) ?_
    -- m_isPeg_t
    refine pw_cSp (As := [.int (nI pj_1)]) (rest := []) ⟨hx, hb, hml, hown, hts⟩ (m_isPeg_t l D cI cP cR pj_1 (by omega)) (va_cwS 1 hts gX3_side_X3_isPeg rfl rfl rfl (by decide +kernel) ⟨Nat.le_of_ble_eq_true rfl, Nat.le_of_ble_eq_true rfl⟩) hK rfl hl.1 rfl (Nat.le_of_ble_eq_true rfl) dX3_side_1 ⟨Nat.zero_le _, Nat.zero_le _⟩ ?_
    refine lv_if_eq (tgt := 16) hx hb dX3_side_4 (by decide) (fun c => absurd c (by decide)) (fun c => ?_)
    refine lv_iload_n hx hb dX3_side_7 rfl (lv_at hl 2 rfl) ?_
    refine lv_iconst (v := nI 0) hx hb dX3_side_8 (by decide) ?_
    refine lv_iconst (v := nI 3) hx hb dX3_side_9 (by decide) ?_
    -- m_in_f
    refine pw_cSp (As := [.int (wh), .int (nI 0), .int (nI 3)]) (rest := []) ⟨hx, hb, hml, hown, hts⟩ (m_in_f l D cI cP cR wh (nI 0) (nI 3) (fun h => hbad ⟨hx_peg, h⟩)) (va_cwS 3 hts gX3_side_X3_in rfl rfl rfl (by decide +kernel) ⟨Nat.le_of_ble_eq_true rfl, Nat.le_of_ble_eq_true rfl⟩) hK rfl hl.1 rfl (Nat.le_of_ble_eq_true rfl) dX3_side_10 ⟨Nat.zero_le _, Nat.zero_le _⟩ ?_
    refine lv_if_ne (tgt := 18) hx hb dX3_side_13 (by decide) (fun c => absurd c (by decide)) (fun c => ?_)
    refine lv_iconst (v := -1) hx hb dX3_side_16 (by decide) ?_
    exact pw_piret hx hb hr (rfl) hlocks dX3_side_17 (rfl)
  · have _h := hx_peg
    refine lv_iload_n hx hb dX3_side_0 rfl (lv_at hl 1 rfl) ?_
    -- m_isPeg_f
    refine pw_cSp (As := [.int (peg)]) (rest := []) ⟨hx, hb, hml, hown, hts⟩ (m_isPeg_f l D cI cP cR peg hx_peg) (va_cwS 1 hts gX3_side_X3_isPeg rfl rfl rfl (by decide +kernel) ⟨Nat.le_of_ble_eq_true rfl, Nat.le_of_ble_eq_true rfl⟩) hK rfl hl.1 rfl (Nat.le_of_ble_eq_true rfl) dX3_side_1 ⟨Nat.zero_le _, Nat.zero_le _⟩ ?_
    refine lv_if_eq (tgt := 16) hx hb dX3_side_4 (by decide) (fun c => ?_) (fun c => absurd c (by decide))
    refine lv_iconst (v := -1) hx hb dX3_side_16 (by decide) ?_
    exact pw_piret hx hb hr (rfl) hlocks dX3_side_17 (rfl)
theorem hi_X3_side_3 : ∀ w ∈ u_ws RX3 TX3 11, w ∈ wsX3_side := by decide +kernel
theorem hf_X3_side_19 : Cond.fieldLink RX3 19 "PegrowModel" "rowOf" "[I" ∈ wsX3_side := by decide +kernel
set_option maxHeartbeats 4000000 in
set_option maxRecDepth 100000 in
theorem n_side_n (l : Launch) (D : va_G) (cI cP cR : ClassId) (x t z rf rw pl hd ha lo ol as_ md : Nat) (T : Nat → Nat → Int32) (Z : Nat → Nat) (RF R P Hd HA Lo Ol AS : Nat → Int32) (p : Nat) (hp4 : p < 4) (wh : Nat) (hw : wh ≤ 3) (hR : R p = -1) : pw_Mp l yX3_side wsX3_side ({ frames := 3, cells := 0, slots := 0, locals := 65 } : Room) D cI cP cR [.ref x, .int (nI p), .int (nI wh)] ([(x, .inr (3, [.ref t, .ref z, .int (nI md), .ref rf, .ref rw, .ref pl, .ref hd, .ref ha, .ref lo, .ref ol, .ref as_])), (t, .inl (cI, 192, .inl (flT T))), (z, .inl (cI, 3, .inl (zI Z))), (rf, .inl (cI, 4, .inl (RF))), (rw, .inl (cI, 4, .inl (R))), (pl, .inl (cI, 4, .inl (P))), (hd, .inl (cI, 4, .inl (Hd))), (ha, .inl (cI, 4, .inl (HA))), (lo, .inl (cI, 4, .inl (Lo))), (ol, .inl (cI, 4, .inl (Ol))), (as_, .inl (cI, 64, .inl (AS)))]) (.int (-2)) := by
  refine pw_ofp (cc := cX3_side) (maxL := 4) (ret := (some .int)) (own := RX3) (by decide +kernel) rfl rfl (Nat.le_of_ble_eq_true rfl) ?_
  intro p_ e_ s m bel meth cd hE hK hP hD ls hl
  obtain ⟨hx, hb, hr, hml, hown, hts, hlocks⟩ := hE
  have hNW := hK.2
  have hl : lv_has ls 4 [(0, .ref x), (1, .int (nI p)), (2, .int (nI wh))] := hl
  refine lv_iload_n hx hb dX3_side_0 rfl (lv_at hl 1 rfl) ?_
  -- m_isPeg_t
  refine pw_cSp (As := [.int (nI p)]) (rest := []) ⟨hx, hb, hml, hown, hts⟩ (m_isPeg_t l D cI cP cR p (by omega)) (va_cwS 1 hts gX3_side_X3_isPeg rfl rfl rfl (by decide +kernel) ⟨Nat.le_of_ble_eq_true rfl, Nat.le_of_ble_eq_true rfl⟩) hK rfl hl.1 rfl (Nat.le_of_ble_eq_true rfl) dX3_side_1 ⟨Nat.zero_le _, Nat.zero_le _⟩ ?_
  refine lv_if_eq (tgt := 16) hx hb dX3_side_4 (by decide) (fun c => absurd c (by decide)) (fun c => ?_)
  refine lv_iload_n hx hb dX3_side_7 rfl (lv_at hl 2 rfl) ?_
  refine lv_iconst (v := nI 0) hx hb dX3_side_8 (by decide) ?_
  refine lv_iconst (v := nI 3) hx hb dX3_side_9 (by decide) ?_
  -- m_in_t
  refine pw_cSp (As := [.int (nI wh), .int (nI 0), .int (nI 3)]) (rest := []) ⟨hx, hb, hml, hown, hts⟩ (m_in_t l D cI cP cR (nI wh) (nI 0) (nI 3) (⟨pw_ge0 (by omega), (pw_leN (by omega) (by omega)).mpr (by omega)⟩)) (va_cwS 3 hts gX3_side_X3_in rfl rfl rfl (by decide +kernel) ⟨Nat.le_of_ble_eq_true rfl, Nat.le_of_ble_eq_true rfl⟩) hK rfl hl.1 rfl (Nat.le_of_ble_eq_true rfl) dX3_side_10 ⟨Nat.zero_le _, Nat.zero_le _⟩ ?_
  refine lv_if_ne (tgt := 18) hx hb dX3_side_13 (by decide) (fun c => ?_) (fun c => absurd c (by decide))
  refine lv_aload_n hx hb dX3_side_18 rfl (lv_at hl 0 rfl) ?_
  refine va_get (D := D) (ci := 3) (v := .ref rw) (C := RX3) (T := TX3) (N := 11) hx hb hts hi_X3_side_3 hown hK.1 hP 0 rfl rfl 4 (by decide) (hts _ hf_X3_side_19) (fun _ h9 => h9) rfl dX3_side_19 ?_
  refine lv_iload_n hx hb dX3_side_22 rfl (lv_at hl 1 rfl) ?_
  refine pw_iald hx hb hK.1 hP 4 0 rfl rfl (by decide) (by omega) dX3_side_23 ?_
  refine lv_iconst (v := -1) hx hb dX3_side_24 (by decide) ?_
  refine lv_icmp_ne (tgt := 31) hx hb dX3_side_25 (by decide) (fun c_1 => ?_) (fun c_1 => ?_)
  · exact absurd hR c_1
  · have _h := c_1
    refine lv_bipush (v := -2) hx hb dX3_side_28 (by decide) ?_
    exact pw_piret hx hb hr (rfl) hlocks dX3_side_30 (rfl)
theorem hf_X3_side_34 : Cond.fieldLink RX3 34 "PegrowModel" "isOld" "[I" ∈ wsX3_side := by decide +kernel
set_option maxHeartbeats 4000000 in
set_option maxRecDepth 100000 in
theorem n_side_o (l : Launch) (D : va_G) (cI cP cR : ClassId) (x t z rf rw pl hd ha lo ol as_ md : Nat) (T : Nat → Nat → Int32) (Z : Nat → Nat) (RF R P Hd HA Lo Ol AS : Nat → Int32) (p : Nat) (hp4 : p < 4) (wh : Nat) (hw : wh ≤ 3) (hR1 : ¬ R p = -1) (hO : Ol p = nI 1) : pw_Mp l yX3_side wsX3_side ({ frames := 3, cells := 0, slots := 0, locals := 65 } : Room) D cI cP cR [.ref x, .int (nI p), .int (nI wh)] ([(x, .inr (3, [.ref t, .ref z, .int (nI md), .ref rf, .ref rw, .ref pl, .ref hd, .ref ha, .ref lo, .ref ol, .ref as_])), (t, .inl (cI, 192, .inl (flT T))), (z, .inl (cI, 3, .inl (zI Z))), (rf, .inl (cI, 4, .inl (RF))), (rw, .inl (cI, 4, .inl (R))), (pl, .inl (cI, 4, .inl (P))), (hd, .inl (cI, 4, .inl (Hd))), (ha, .inl (cI, 4, .inl (HA))), (lo, .inl (cI, 4, .inl (Lo))), (ol, .inl (cI, 4, .inl (Ol))), (as_, .inl (cI, 64, .inl (AS)))]) (.int (-4)) := by
  refine pw_ofp (cc := cX3_side) (maxL := 4) (ret := (some .int)) (own := RX3) (by decide +kernel) rfl rfl (Nat.le_of_ble_eq_true rfl) ?_
  intro p_ e_ s m bel meth cd hE hK hP hD ls hl
  obtain ⟨hx, hb, hr, hml, hown, hts, hlocks⟩ := hE
  have hNW := hK.2
  have hl : lv_has ls 4 [(0, .ref x), (1, .int (nI p)), (2, .int (nI wh))] := hl
  refine lv_iload_n hx hb dX3_side_0 rfl (lv_at hl 1 rfl) ?_
  -- m_isPeg_t
  refine pw_cSp (As := [.int (nI p)]) (rest := []) ⟨hx, hb, hml, hown, hts⟩ (m_isPeg_t l D cI cP cR p (by omega)) (va_cwS 1 hts gX3_side_X3_isPeg rfl rfl rfl (by decide +kernel) ⟨Nat.le_of_ble_eq_true rfl, Nat.le_of_ble_eq_true rfl⟩) hK rfl hl.1 rfl (Nat.le_of_ble_eq_true rfl) dX3_side_1 ⟨Nat.zero_le _, Nat.zero_le _⟩ ?_
  refine lv_if_eq (tgt := 16) hx hb dX3_side_4 (by decide) (fun c => absurd c (by decide)) (fun c => ?_)
  refine lv_iload_n hx hb dX3_side_7 rfl (lv_at hl 2 rfl) ?_
  refine lv_iconst (v := nI 0) hx hb dX3_side_8 (by decide) ?_
  refine lv_iconst (v := nI 3) hx hb dX3_side_9 (by decide) ?_
  -- m_in_t
  refine pw_cSp (As := [.int (nI wh), .int (nI 0), .int (nI 3)]) (rest := []) ⟨hx, hb, hml, hown, hts⟩ (m_in_t l D cI cP cR (nI wh) (nI 0) (nI 3) (⟨pw_ge0 (by omega), (pw_leN (by omega) (by omega)).mpr (by omega)⟩)) (va_cwS 3 hts gX3_side_X3_in rfl rfl rfl (by decide +kernel) ⟨Nat.le_of_ble_eq_true rfl, Nat.le_of_ble_eq_true rfl⟩) hK rfl hl.1 rfl (Nat.le_of_ble_eq_true rfl) dX3_side_10 ⟨Nat.zero_le _, Nat.zero_le _⟩ ?_
  refine lv_if_ne (tgt := 18) hx hb dX3_side_13 (by decide) (fun c => ?_) (fun c => absurd c (by decide))
  refine lv_aload_n hx hb dX3_side_18 rfl (lv_at hl 0 rfl) ?_
  refine va_get (D := D) (ci := 3) (v := .ref rw) (C := RX3) (T := TX3) (N := 11) hx hb hts hi_X3_side_3 hown hK.1 hP 0 rfl rfl 4 (by decide) (hts _ hf_X3_side_19) (fun _ h9 => h9) rfl dX3_side_19 ?_
  refine lv_iload_n hx hb dX3_side_22 rfl (lv_at hl 1 rfl) ?_
  refine pw_iald hx hb hK.1 hP 4 0 rfl rfl (by decide) (by omega) dX3_side_23 ?_
  refine lv_iconst (v := -1) hx hb dX3_side_24 (by decide) ?_
  refine lv_icmp_ne (tgt := 31) hx hb dX3_side_25 (by decide) (fun c_1 => ?_) (fun c_1 => ?_)
  · have _h := c_1
    refine lv_aload_n hx hb dX3_side_31 rfl (lv_at hl 0 rfl) ?_
    refine va_get (D := D) (ci := 3) (v := .ref ol) (C := RX3) (T := TX3) (N := 11) hx hb hts hi_X3_side_3 hown hK.1 hP 0 rfl rfl 9 (by decide) (hts _ hf_X3_side_34) (fun _ h9 => h9) rfl dX3_side_32 ?_
    refine lv_iload_n hx hb dX3_side_35 rfl (lv_at hl 1 rfl) ?_
    refine pw_iald hx hb hK.1 hP 9 0 rfl rfl (by decide) (by omega) dX3_side_36 ?_
    refine lv_iconst (v := nI 1) hx hb dX3_side_37 (by decide) ?_
    refine lv_icmp_ne (tgt := 44) hx hb dX3_side_38 (by decide) (fun c_2 => ?_) (fun c_2 => ?_)
    · exact absurd hO c_2
    · have _h := c_2
      refine lv_bipush (v := -4) hx hb dX3_side_41 (by decide) ?_
      exact pw_piret hx hb hr (rfl) hlocks dX3_side_43 (rfl)
  · exact absurd c_1 hR1
theorem hf_X3_side_13 : Cond.fieldLink RX3 13 "PegrowModel" "sizes" "[I" ∈ wsX3_side := by decide +kernel
theorem hf_X3_side_22 : Cond.fieldLink RX3 22 "PegrowModel" "placeOf" "[I" ∈ wsX3_side := by decide +kernel
set_option maxHeartbeats 4000000 in
set_option maxRecDepth 100000 in
theorem n_side_0 (l : Launch) (D : va_G) (cI cP cR : ClassId) (x t z rf rw pl hd ha lo ol as_ md : Nat) (T : Nat → Nat → Int32) (Z : Nat → Nat) (RF R P Hd HA Lo Ol AS : Nat → Int32) (p i : Nat) (hp4 : p < 4) (hi : i < 3) (hz : Z i ≤ 60) (hR : R p = nI i) (hO : ¬ Ol p = nI 1) (q : Nat) (hPq : P p = nI q) (hq : q ≤ Z i) : pw_Mp l yX3_side wsX3_side ({ frames := 3, cells := 0, slots := 0, locals := 65 } : Room) D cI cP cR [.ref x, .int (nI p), .int (nI 0)] ([(x, .inr (3, [.ref t, .ref z, .int (nI md), .ref rf, .ref rw, .ref pl, .ref hd, .ref ha, .ref lo, .ref ol, .ref as_])), (t, .inl (cI, 192, .inl (flT T))), (z, .inl (cI, 3, .inl (zI Z))), (rf, .inl (cI, 4, .inl (RF))), (rw, .inl (cI, 4, .inl (R))), (pl, .inl (cI, 4, .inl (P))), (hd, .inl (cI, 4, .inl (Hd))), (ha, .inl (cI, 4, .inl (HA))), (lo, .inl (cI, 4, .inl (Lo))), (ol, .inl (cI, 4, .inl (Ol))), (as_, .inl (cI, 64, .inl (AS)))]) (.int (if q < Z i then 1 else 0)) := by
  refine pw_ofp (cc := cX3_side) (maxL := 4) (ret := (some .int)) (own := RX3) (by decide +kernel) rfl rfl (Nat.le_of_ble_eq_true rfl) ?_
  intro p_ e_ s m bel meth cd hE hK hP hD ls hl
  obtain ⟨hx, hb, hr, hml, hown, hts, hlocks⟩ := hE
  have hNW := hK.2
  have hl : lv_has ls 4 [(0, .ref x), (1, .int (nI p)), (2, .int (nI 0))] := hl
  have hR1 : ¬ R p = -1 := by rw [hR]; exact pw_nm1 (by omega)
  refine lv_iload_n hx hb dX3_side_0 rfl (lv_at hl 1 rfl) ?_
  -- m_isPeg_t
  refine pw_cSp (As := [.int (nI p)]) (rest := []) ⟨hx, hb, hml, hown, hts⟩ (m_isPeg_t l D cI cP cR p (by omega)) (va_cwS 1 hts gX3_side_X3_isPeg rfl rfl rfl (by decide +kernel) ⟨Nat.le_of_ble_eq_true rfl, Nat.le_of_ble_eq_true rfl⟩) hK rfl hl.1 rfl (Nat.le_of_ble_eq_true rfl) dX3_side_1 ⟨Nat.zero_le _, Nat.zero_le _⟩ ?_
  refine lv_if_eq (tgt := 16) hx hb dX3_side_4 (by decide) (fun c => absurd c (by decide)) (fun c => ?_)
  refine lv_iload_n hx hb dX3_side_7 rfl (lv_at hl 2 rfl) ?_
  refine lv_iconst (v := nI 0) hx hb dX3_side_8 (by decide) ?_
  refine lv_iconst (v := nI 3) hx hb dX3_side_9 (by decide) ?_
  -- m_in_t
  refine pw_cSp (As := [.int (nI 0), .int (nI 0), .int (nI 3)]) (rest := []) ⟨hx, hb, hml, hown, hts⟩ (m_in_t l D cI cP cR (nI 0) (nI 0) (nI 3) (⟨pw_ge0 (by omega), (pw_leN (by omega) (by omega)).mpr (by omega)⟩)) (va_cwS 3 hts gX3_side_X3_in rfl rfl rfl (by decide +kernel) ⟨Nat.le_of_ble_eq_true rfl, Nat.le_of_ble_eq_true rfl⟩) hK rfl hl.1 rfl (Nat.le_of_ble_eq_true rfl) dX3_side_10 ⟨Nat.zero_le _, Nat.zero_le _⟩ ?_
  refine lv_if_ne (tgt := 18) hx hb dX3_side_13 (by decide) (fun c => ?_) (fun c => absurd c (by decide))
  refine lv_aload_n hx hb dX3_side_18 rfl (lv_at hl 0 rfl) ?_
  refine va_get (D := D) (ci := 3) (v := .ref rw) (C := RX3) (T := TX3) (N := 11) hx hb hts hi_X3_side_3 hown hK.1 hP 0 rfl rfl 4 (by decide) (hts _ hf_X3_side_19) (fun _ h9 => h9) rfl dX3_side_19 ?_
  refine lv_iload_n hx hb dX3_side_22 rfl (lv_at hl 1 rfl) ?_
  refine pw_iald hx hb hK.1 hP 4 0 rfl rfl (by decide) (by omega) dX3_side_23 ?_
  refine lv_iconst (v := -1) hx hb dX3_side_24 (by decide) ?_
  refine lv_icmp_ne (tgt := 31) hx hb dX3_side_25 (by decide) (fun c_1 => ?_) (fun c_1 => ?_)
  · have _h := c_1
    refine lv_aload_n hx hb dX3_side_31 rfl (lv_at hl 0 rfl) ?_
    refine va_get (D := D) (ci := 3) (v := .ref ol) (C := RX3) (T := TX3) (N := 11) hx hb hts hi_X3_side_3 hown hK.1 hP 0 rfl rfl 9 (by decide) (hts _ hf_X3_side_34) (fun _ h9 => h9) rfl dX3_side_32 ?_
    refine lv_iload_n hx hb dX3_side_35 rfl (lv_at hl 1 rfl) ?_
    refine pw_iald hx hb hK.1 hP 9 0 rfl rfl (by decide) (by omega) dX3_side_36 ?_
    refine lv_iconst (v := nI 1) hx hb dX3_side_37 (by decide) ?_
    refine lv_icmp_ne (tgt := 44) hx hb dX3_side_38 (by decide) (fun c_2 => ?_) (fun c_2 => ?_)
    · have _h := c_2
      refine lv_iload_n hx hb dX3_side_44 rfl (lv_at hl 2 rfl) ?_
      refine lv_iconst (v := nI 1) hx hb dX3_side_45 (by decide) ?_
      refine lv_icmp_le (tgt := 56) hx hb dX3_side_46 (by decide) (fun c => ?_) (fun c => absurd c (by decide))
      refine lv_iload_n hx hb dX3_side_56 rfl (lv_at hl 2 rfl) ?_
      refine lv_if_ne (tgt := 88) hx hb dX3_side_57 (by decide) (fun c => absurd c (by decide)) (fun c => ?_)
      refine lv_aload_n hx hb dX3_side_60 rfl (lv_at hl 0 rfl) ?_
      refine va_get (D := D) (ci := 3) (v := .ref pl) (C := RX3) (T := TX3) (N := 11) hx hb hts hi_X3_side_3 hown hK.1 hP 0 rfl rfl 5 (by decide) (hts _ hf_X3_side_22) (fun _ h9 => h9) rfl dX3_side_61 ?_
      refine lv_iload_n hx hb dX3_side_64 rfl (lv_at hl 1 rfl) ?_
      refine pw_iald hx hb hK.1 hP 5 0 rfl rfl (by decide) (by omega) dX3_side_65 ?_
      refine pw_top (y := nI q) hPq ?_
      refine lv_aload_n hx hb dX3_side_66 rfl (lv_at hl 0 rfl) ?_
      refine va_get (D := D) (ci := 3) (v := .ref z) (C := RX3) (T := TX3) (N := 11) hx hb hts hi_X3_side_3 hown hK.1 hP 0 rfl rfl 1 (by decide) (hts _ hf_X3_side_13) (fun _ h9 => h9) rfl dX3_side_67 ?_
      refine lv_aload_n hx hb dX3_side_70 rfl (lv_at hl 0 rfl) ?_
      refine va_get (D := D) (ci := 3) (v := .ref rw) (C := RX3) (T := TX3) (N := 11) hx hb hts hi_X3_side_3 hown hK.1 hP 0 rfl rfl 4 (by decide) (hts _ hf_X3_side_19) (fun _ h9 => h9) rfl dX3_side_71 ?_
      refine lv_iload_n hx hb dX3_side_74 rfl (lv_at hl 1 rfl) ?_
      refine pw_iald hx hb hK.1 hP 4 0 rfl rfl (by decide) (by omega) dX3_side_75 ?_
      refine pw_top (y := nI i) hR ?_
      refine pw_iald hx hb hK.1 hP 2 0 rfl rfl (by decide) (by omega) dX3_side_76 ?_
      refine pw_top (y := nI (Z i)) rfl ?_
      refine pw_icmp_ge (tgt := 84) hx hb (by omega) (by omega) dX3_side_77 (by decide) (fun c_3 => ?_) (fun c_3 => ?_)
      · have _h := c_3
        refine lv_iconst (v := nI 0) hx hb dX3_side_84 (by decide) ?_
        refine lv_goto (tgt := 102) hx hb dX3_side_85 (by decide) ?_
        refine lv_istore_n (lv' := [(3, .int (nI 0)), (0, .ref x), (1, .int (nI p)), (2, .int (nI 0))]) hx hb dX3_side_102 rfl hl (by decide) rfl (fun ls hl => ?_)
        refine lv_iload_n hx hb dX3_side_103 rfl (lv_at hl 0 rfl) ?_
        refine lv_if_eq (tgt := 111) hx hb dX3_side_104 (by decide) (fun c => ?_) (fun c => absurd c (by decide))
        refine lv_iconst (v := nI 0) hx hb dX3_side_111 (by decide) ?_
        exact pw_piret hx hb hr (rfl) hlocks dX3_side_112 (by rw [if_neg (Nat.not_lt.mpr c_3)]; rfl)
      · have _h := c_3
        refine lv_iconst (v := nI 1) hx hb dX3_side_80 (by decide) ?_
        refine lv_goto (tgt := 102) hx hb dX3_side_81 (by decide) ?_
        refine lv_istore_n (lv' := [(3, .int (nI 1)), (0, .ref x), (1, .int (nI p)), (2, .int (nI 0))]) hx hb dX3_side_102 rfl hl (by decide) rfl (fun ls hl => ?_)
        refine lv_iload_n hx hb dX3_side_103 rfl (lv_at hl 0 rfl) ?_
        refine lv_if_eq (tgt := 111) hx hb dX3_side_104 (by decide) (fun c => absurd c (by decide)) (fun c => ?_)
        refine lv_iconst (v := nI 1) hx hb dX3_side_107 (by decide) ?_
        refine lv_goto (tgt := 112) hx hb dX3_side_108 (by decide) ?_
        exact pw_piret hx hb hr (rfl) hlocks dX3_side_112 (by rw [if_pos c_3]; rfl)
    · exact absurd c_2 hO
  · exact absurd c_1 hR1
set_option maxHeartbeats 4000000 in
set_option maxRecDepth 100000 in
theorem n_side_1 (l : Launch) (D : va_G) (cI cP cR : ClassId) (x t z rf rw pl hd ha lo ol as_ md : Nat) (T : Nat → Nat → Int32) (Z : Nat → Nat) (RF R P Hd HA Lo Ol AS : Nat → Int32) (p i : Nat) (hp4 : p < 4) (hi : i < 3) (hz : Z i ≤ 60) (hR : R p = nI i) (hO : ¬ Ol p = nI 1) (q : Nat) (hPq : P p = nI q) (hq : q ≤ Z i) : pw_Mp l yX3_side wsX3_side ({ frames := 3, cells := 0, slots := 0, locals := 65 } : Room) D cI cP cR [.ref x, .int (nI p), .int (nI 1)] ([(x, .inr (3, [.ref t, .ref z, .int (nI md), .ref rf, .ref rw, .ref pl, .ref hd, .ref ha, .ref lo, .ref ol, .ref as_])), (t, .inl (cI, 192, .inl (flT T))), (z, .inl (cI, 3, .inl (zI Z))), (rf, .inl (cI, 4, .inl (RF))), (rw, .inl (cI, 4, .inl (R))), (pl, .inl (cI, 4, .inl (P))), (hd, .inl (cI, 4, .inl (Hd))), (ha, .inl (cI, 4, .inl (HA))), (lo, .inl (cI, 4, .inl (Lo))), (ol, .inl (cI, 4, .inl (Ol))), (as_, .inl (cI, 64, .inl (AS)))]) (.int (if q = 0 then 0 else 1)) := by
  refine pw_ofp (cc := cX3_side) (maxL := 4) (ret := (some .int)) (own := RX3) (by decide +kernel) rfl rfl (Nat.le_of_ble_eq_true rfl) ?_
  intro p_ e_ s m bel meth cd hE hK hP hD ls hl
  obtain ⟨hx, hb, hr, hml, hown, hts, hlocks⟩ := hE
  have hNW := hK.2
  have hl : lv_has ls 4 [(0, .ref x), (1, .int (nI p)), (2, .int (nI 1))] := hl
  have hR1 : ¬ R p = -1 := by rw [hR]; exact pw_nm1 (by omega)
  refine lv_iload_n hx hb dX3_side_0 rfl (lv_at hl 1 rfl) ?_
  -- m_isPeg_t
  refine pw_cSp (As := [.int (nI p)]) (rest := []) ⟨hx, hb, hml, hown, hts⟩ (m_isPeg_t l D cI cP cR p (by omega)) (va_cwS 1 hts gX3_side_X3_isPeg rfl rfl rfl (by decide +kernel) ⟨Nat.le_of_ble_eq_true rfl, Nat.le_of_ble_eq_true rfl⟩) hK rfl hl.1 rfl (Nat.le_of_ble_eq_true rfl) dX3_side_1 ⟨Nat.zero_le _, Nat.zero_le _⟩ ?_
  refine lv_if_eq (tgt := 16) hx hb dX3_side_4 (by decide) (fun c => absurd c (by decide)) (fun c => ?_)
  refine lv_iload_n hx hb dX3_side_7 rfl (lv_at hl 2 rfl) ?_
  refine lv_iconst (v := nI 0) hx hb dX3_side_8 (by decide) ?_
  refine lv_iconst (v := nI 3) hx hb dX3_side_9 (by decide) ?_
  -- m_in_t
  refine pw_cSp (As := [.int (nI 1), .int (nI 0), .int (nI 3)]) (rest := []) ⟨hx, hb, hml, hown, hts⟩ (m_in_t l D cI cP cR (nI 1) (nI 0) (nI 3) (⟨pw_ge0 (by omega), (pw_leN (by omega) (by omega)).mpr (by omega)⟩)) (va_cwS 3 hts gX3_side_X3_in rfl rfl rfl (by decide +kernel) ⟨Nat.le_of_ble_eq_true rfl, Nat.le_of_ble_eq_true rfl⟩) hK rfl hl.1 rfl (Nat.le_of_ble_eq_true rfl) dX3_side_10 ⟨Nat.zero_le _, Nat.zero_le _⟩ ?_
  refine lv_if_ne (tgt := 18) hx hb dX3_side_13 (by decide) (fun c => ?_) (fun c => absurd c (by decide))
  refine lv_aload_n hx hb dX3_side_18 rfl (lv_at hl 0 rfl) ?_
  refine va_get (D := D) (ci := 3) (v := .ref rw) (C := RX3) (T := TX3) (N := 11) hx hb hts hi_X3_side_3 hown hK.1 hP 0 rfl rfl 4 (by decide) (hts _ hf_X3_side_19) (fun _ h9 => h9) rfl dX3_side_19 ?_
  refine lv_iload_n hx hb dX3_side_22 rfl (lv_at hl 1 rfl) ?_
  refine pw_iald hx hb hK.1 hP 4 0 rfl rfl (by decide) (by omega) dX3_side_23 ?_
  refine lv_iconst (v := -1) hx hb dX3_side_24 (by decide) ?_
  refine lv_icmp_ne (tgt := 31) hx hb dX3_side_25 (by decide) (fun c_1 => ?_) (fun c_1 => ?_)
  · have _h := c_1
    refine lv_aload_n hx hb dX3_side_31 rfl (lv_at hl 0 rfl) ?_
    refine va_get (D := D) (ci := 3) (v := .ref ol) (C := RX3) (T := TX3) (N := 11) hx hb hts hi_X3_side_3 hown hK.1 hP 0 rfl rfl 9 (by decide) (hts _ hf_X3_side_34) (fun _ h9 => h9) rfl dX3_side_32 ?_
    refine lv_iload_n hx hb dX3_side_35 rfl (lv_at hl 1 rfl) ?_
    refine pw_iald hx hb hK.1 hP 9 0 rfl rfl (by decide) (by omega) dX3_side_36 ?_
    refine lv_iconst (v := nI 1) hx hb dX3_side_37 (by decide) ?_
    refine lv_icmp_ne (tgt := 44) hx hb dX3_side_38 (by decide) (fun c_2 => ?_) (fun c_2 => ?_)
    · have _h := c_2
      refine lv_iload_n hx hb dX3_side_44 rfl (lv_at hl 2 rfl) ?_
      refine lv_iconst (v := nI 1) hx hb dX3_side_45 (by decide) ?_
      refine lv_icmp_le (tgt := 56) hx hb dX3_side_46 (by decide) (fun c => ?_) (fun c => absurd c (by decide))
      refine lv_iload_n hx hb dX3_side_56 rfl (lv_at hl 2 rfl) ?_
      refine lv_if_ne (tgt := 88) hx hb dX3_side_57 (by decide) (fun c => ?_) (fun c => absurd c (by decide))
      refine lv_aload_n hx hb dX3_side_88 rfl (lv_at hl 0 rfl) ?_
      refine va_get (D := D) (ci := 3) (v := .ref pl) (C := RX3) (T := TX3) (N := 11) hx hb hts hi_X3_side_3 hown hK.1 hP 0 rfl rfl 5 (by decide) (hts _ hf_X3_side_22) (fun _ h9 => h9) rfl dX3_side_89 ?_
      refine lv_iload_n hx hb dX3_side_92 rfl (lv_at hl 1 rfl) ?_
      refine pw_iald hx hb hK.1 hP 5 0 rfl rfl (by decide) (by omega) dX3_side_93 ?_
      refine pw_top (y := nI q) hPq ?_
      refine pw_if_le (tgt := 101) hx hb (by omega) dX3_side_94 (by decide) (fun c_3 => ?_) (fun c_3 => ?_)
      · have _h := c_3
        refine lv_iconst (v := nI 0) hx hb dX3_side_101 (by decide) ?_
        refine lv_istore_n (lv' := [(3, .int (nI 0)), (0, .ref x), (1, .int (nI p)), (2, .int (nI 1))]) hx hb dX3_side_102 rfl hl (by decide) rfl (fun ls hl => ?_)
        refine lv_iload_n hx hb dX3_side_103 rfl (lv_at hl 0 rfl) ?_
        refine lv_if_eq (tgt := 111) hx hb dX3_side_104 (by decide) (fun c => ?_) (fun c => absurd c (by decide))
        refine lv_iconst (v := nI 0) hx hb dX3_side_111 (by decide) ?_
        exact pw_piret hx hb hr (rfl) hlocks dX3_side_112 (by rw [if_pos c_3]; rfl)
      · have _h := c_3
        refine lv_iconst (v := nI 1) hx hb dX3_side_97 (by decide) ?_
        refine lv_goto (tgt := 102) hx hb dX3_side_98 (by decide) ?_
        refine lv_istore_n (lv' := [(3, .int (nI 1)), (0, .ref x), (1, .int (nI p)), (2, .int (nI 1))]) hx hb dX3_side_102 rfl hl (by decide) rfl (fun ls hl => ?_)
        refine lv_iload_n hx hb dX3_side_103 rfl (lv_at hl 0 rfl) ?_
        refine lv_if_eq (tgt := 111) hx hb dX3_side_104 (by decide) (fun c => absurd c (by decide)) (fun c => ?_)
        refine lv_iconst (v := nI 1) hx hb dX3_side_107 (by decide) ?_
        refine lv_goto (tgt := 112) hx hb dX3_side_108 (by decide) ?_
        exact pw_piret hx hb hr (rfl) hlocks dX3_side_112 (by rw [if_neg (by omega)]; rfl)
    · exact absurd c_2 hO
  · exact absurd c_1 hR1
set_option maxHeartbeats 4000000 in
set_option maxRecDepth 100000 in
theorem n_side_2 (l : Launch) (D : va_G) (cI cP cR : ClassId) (x t z rf rw pl hd ha lo ol as_ md : Nat) (T : Nat → Nat → Int32) (Z : Nat → Nat) (RF R P Hd HA Lo Ol AS : Nat → Int32) (p i : Nat) (hp4 : p < 4) (hi : i < 3) (hz : Z i ≤ 60) (hR : R p = nI i) (hO : ¬ Ol p = nI 1) (q : Nat) (hPq : P p = nI q) (hq : q ≤ Z i) : pw_Mp l yX3_side wsX3_side ({ frames := 3, cells := 0, slots := 0, locals := 65 } : Room) D cI cP cR [.ref x, .int (nI p), .int (nI 2)] ([(x, .inr (3, [.ref t, .ref z, .int (nI md), .ref rf, .ref rw, .ref pl, .ref hd, .ref ha, .ref lo, .ref ol, .ref as_])), (t, .inl (cI, 192, .inl (flT T))), (z, .inl (cI, 3, .inl (zI Z))), (rf, .inl (cI, 4, .inl (RF))), (rw, .inl (cI, 4, .inl (R))), (pl, .inl (cI, 4, .inl (P))), (hd, .inl (cI, 4, .inl (Hd))), (ha, .inl (cI, 4, .inl (HA))), (lo, .inl (cI, 4, .inl (Lo))), (ol, .inl (cI, 4, .inl (Ol))), (as_, .inl (cI, 64, .inl (AS)))]) (.int (nI q)) := by
  refine pw_ofp (cc := cX3_side) (maxL := 4) (ret := (some .int)) (own := RX3) (by decide +kernel) rfl rfl (Nat.le_of_ble_eq_true rfl) ?_
  intro p_ e_ s m bel meth cd hE hK hP hD ls hl
  obtain ⟨hx, hb, hr, hml, hown, hts, hlocks⟩ := hE
  have hNW := hK.2
  have hl : lv_has ls 4 [(0, .ref x), (1, .int (nI p)), (2, .int (nI 2))] := hl
  have hR1 : ¬ R p = -1 := by rw [hR]; exact pw_nm1 (by omega)
  refine lv_iload_n hx hb dX3_side_0 rfl (lv_at hl 1 rfl) ?_
  -- m_isPeg_t
  refine pw_cSp (As := [.int (nI p)]) (rest := []) ⟨hx, hb, hml, hown, hts⟩ (m_isPeg_t l D cI cP cR p (by omega)) (va_cwS 1 hts gX3_side_X3_isPeg rfl rfl rfl (by decide +kernel) ⟨Nat.le_of_ble_eq_true rfl, Nat.le_of_ble_eq_true rfl⟩) hK rfl hl.1 rfl (Nat.le_of_ble_eq_true rfl) dX3_side_1 ⟨Nat.zero_le _, Nat.zero_le _⟩ ?_
  refine lv_if_eq (tgt := 16) hx hb dX3_side_4 (by decide) (fun c => absurd c (by decide)) (fun c => ?_)
  refine lv_iload_n hx hb dX3_side_7 rfl (lv_at hl 2 rfl) ?_
  refine lv_iconst (v := nI 0) hx hb dX3_side_8 (by decide) ?_
  refine lv_iconst (v := nI 3) hx hb dX3_side_9 (by decide) ?_
  -- m_in_t
  refine pw_cSp (As := [.int (nI 2), .int (nI 0), .int (nI 3)]) (rest := []) ⟨hx, hb, hml, hown, hts⟩ (m_in_t l D cI cP cR (nI 2) (nI 0) (nI 3) (⟨pw_ge0 (by omega), (pw_leN (by omega) (by omega)).mpr (by omega)⟩)) (va_cwS 3 hts gX3_side_X3_in rfl rfl rfl (by decide +kernel) ⟨Nat.le_of_ble_eq_true rfl, Nat.le_of_ble_eq_true rfl⟩) hK rfl hl.1 rfl (Nat.le_of_ble_eq_true rfl) dX3_side_10 ⟨Nat.zero_le _, Nat.zero_le _⟩ ?_
  refine lv_if_ne (tgt := 18) hx hb dX3_side_13 (by decide) (fun c => ?_) (fun c => absurd c (by decide))
  refine lv_aload_n hx hb dX3_side_18 rfl (lv_at hl 0 rfl) ?_
  refine va_get (D := D) (ci := 3) (v := .ref rw) (C := RX3) (T := TX3) (N := 11) hx hb hts hi_X3_side_3 hown hK.1 hP 0 rfl rfl 4 (by decide) (hts _ hf_X3_side_19) (fun _ h9 => h9) rfl dX3_side_19 ?_
  refine lv_iload_n hx hb dX3_side_22 rfl (lv_at hl 1 rfl) ?_
  refine pw_iald hx hb hK.1 hP 4 0 rfl rfl (by decide) (by omega) dX3_side_23 ?_
  refine lv_iconst (v := -1) hx hb dX3_side_24 (by decide) ?_
  refine lv_icmp_ne (tgt := 31) hx hb dX3_side_25 (by decide) (fun c_1 => ?_) (fun c_1 => ?_)
  · have _h := c_1
    refine lv_aload_n hx hb dX3_side_31 rfl (lv_at hl 0 rfl) ?_
    refine va_get (D := D) (ci := 3) (v := .ref ol) (C := RX3) (T := TX3) (N := 11) hx hb hts hi_X3_side_3 hown hK.1 hP 0 rfl rfl 9 (by decide) (hts _ hf_X3_side_34) (fun _ h9 => h9) rfl dX3_side_32 ?_
    refine lv_iload_n hx hb dX3_side_35 rfl (lv_at hl 1 rfl) ?_
    refine pw_iald hx hb hK.1 hP 9 0 rfl rfl (by decide) (by omega) dX3_side_36 ?_
    refine lv_iconst (v := nI 1) hx hb dX3_side_37 (by decide) ?_
    refine lv_icmp_ne (tgt := 44) hx hb dX3_side_38 (by decide) (fun c_2 => ?_) (fun c_2 => ?_)
    · have _h := c_2
      refine lv_iload_n hx hb dX3_side_44 rfl (lv_at hl 2 rfl) ?_
      refine lv_iconst (v := nI 1) hx hb dX3_side_45 (by decide) ?_
      refine lv_icmp_le (tgt := 56) hx hb dX3_side_46 (by decide) (fun c => absurd c (by decide)) (fun c => ?_)
      refine lv_aload_n hx hb dX3_side_49 rfl (lv_at hl 0 rfl) ?_
      refine va_get (D := D) (ci := 3) (v := .ref pl) (C := RX3) (T := TX3) (N := 11) hx hb hts hi_X3_side_3 hown hK.1 hP 0 rfl rfl 5 (by decide) (hts _ hf_X3_side_22) (fun _ h9 => h9) rfl dX3_side_50 ?_
      refine lv_iload_n hx hb dX3_side_53 rfl (lv_at hl 1 rfl) ?_
      refine pw_iald hx hb hK.1 hP 5 0 rfl rfl (by decide) (by omega) dX3_side_54 ?_
      refine pw_top (y := nI q) hPq ?_
      exact pw_piret hx hb hr (rfl) hlocks dX3_side_55 (rfl)
    · exact absurd c_2 hO
  · exact absurd c_1 hR1
set_option maxHeartbeats 4000000 in
set_option maxRecDepth 100000 in
theorem n_side_3 (l : Launch) (D : va_G) (cI cP cR : ClassId) (x t z rf rw pl hd ha lo ol as_ md : Nat) (T : Nat → Nat → Int32) (Z : Nat → Nat) (RF R P Hd HA Lo Ol AS : Nat → Int32) (p i : Nat) (hp4 : p < 4) (hi : i < 3) (hz : Z i ≤ 60) (hR : R p = nI i) (hO : ¬ Ol p = nI 1) (q : Nat) (hPq : P p = nI q) (hq : q ≤ Z i) : pw_Mp l yX3_side wsX3_side ({ frames := 3, cells := 0, slots := 0, locals := 65 } : Room) D cI cP cR [.ref x, .int (nI p), .int (nI 3)] ([(x, .inr (3, [.ref t, .ref z, .int (nI md), .ref rf, .ref rw, .ref pl, .ref hd, .ref ha, .ref lo, .ref ol, .ref as_])), (t, .inl (cI, 192, .inl (flT T))), (z, .inl (cI, 3, .inl (zI Z))), (rf, .inl (cI, 4, .inl (RF))), (rw, .inl (cI, 4, .inl (R))), (pl, .inl (cI, 4, .inl (P))), (hd, .inl (cI, 4, .inl (Hd))), (ha, .inl (cI, 4, .inl (HA))), (lo, .inl (cI, 4, .inl (Lo))), (ol, .inl (cI, 4, .inl (Ol))), (as_, .inl (cI, 64, .inl (AS)))]) (.int (nI q)) := by
  refine pw_ofp (cc := cX3_side) (maxL := 4) (ret := (some .int)) (own := RX3) (by decide +kernel) rfl rfl (Nat.le_of_ble_eq_true rfl) ?_
  intro p_ e_ s m bel meth cd hE hK hP hD ls hl
  obtain ⟨hx, hb, hr, hml, hown, hts, hlocks⟩ := hE
  have hNW := hK.2
  have hl : lv_has ls 4 [(0, .ref x), (1, .int (nI p)), (2, .int (nI 3))] := hl
  have hR1 : ¬ R p = -1 := by rw [hR]; exact pw_nm1 (by omega)
  refine lv_iload_n hx hb dX3_side_0 rfl (lv_at hl 1 rfl) ?_
  -- m_isPeg_t
  refine pw_cSp (As := [.int (nI p)]) (rest := []) ⟨hx, hb, hml, hown, hts⟩ (m_isPeg_t l D cI cP cR p (by omega)) (va_cwS 1 hts gX3_side_X3_isPeg rfl rfl rfl (by decide +kernel) ⟨Nat.le_of_ble_eq_true rfl, Nat.le_of_ble_eq_true rfl⟩) hK rfl hl.1 rfl (Nat.le_of_ble_eq_true rfl) dX3_side_1 ⟨Nat.zero_le _, Nat.zero_le _⟩ ?_
  refine lv_if_eq (tgt := 16) hx hb dX3_side_4 (by decide) (fun c => absurd c (by decide)) (fun c => ?_)
  refine lv_iload_n hx hb dX3_side_7 rfl (lv_at hl 2 rfl) ?_
  refine lv_iconst (v := nI 0) hx hb dX3_side_8 (by decide) ?_
  refine lv_iconst (v := nI 3) hx hb dX3_side_9 (by decide) ?_
  -- m_in_t
  refine pw_cSp (As := [.int (nI 3), .int (nI 0), .int (nI 3)]) (rest := []) ⟨hx, hb, hml, hown, hts⟩ (m_in_t l D cI cP cR (nI 3) (nI 0) (nI 3) (⟨pw_ge0 (by omega), (pw_leN (by omega) (by omega)).mpr (by omega)⟩)) (va_cwS 3 hts gX3_side_X3_in rfl rfl rfl (by decide +kernel) ⟨Nat.le_of_ble_eq_true rfl, Nat.le_of_ble_eq_true rfl⟩) hK rfl hl.1 rfl (Nat.le_of_ble_eq_true rfl) dX3_side_10 ⟨Nat.zero_le _, Nat.zero_le _⟩ ?_
  refine lv_if_ne (tgt := 18) hx hb dX3_side_13 (by decide) (fun c => ?_) (fun c => absurd c (by decide))
  refine lv_aload_n hx hb dX3_side_18 rfl (lv_at hl 0 rfl) ?_
  refine va_get (D := D) (ci := 3) (v := .ref rw) (C := RX3) (T := TX3) (N := 11) hx hb hts hi_X3_side_3 hown hK.1 hP 0 rfl rfl 4 (by decide) (hts _ hf_X3_side_19) (fun _ h9 => h9) rfl dX3_side_19 ?_
  refine lv_iload_n hx hb dX3_side_22 rfl (lv_at hl 1 rfl) ?_
  refine pw_iald hx hb hK.1 hP 4 0 rfl rfl (by decide) (by omega) dX3_side_23 ?_
  refine lv_iconst (v := -1) hx hb dX3_side_24 (by decide) ?_
  refine lv_icmp_ne (tgt := 31) hx hb dX3_side_25 (by decide) (fun c_1 => ?_) (fun c_1 => ?_)
  · have _h := c_1
    refine lv_aload_n hx hb dX3_side_31 rfl (lv_at hl 0 rfl) ?_
    refine va_get (D := D) (ci := 3) (v := .ref ol) (C := RX3) (T := TX3) (N := 11) hx hb hts hi_X3_side_3 hown hK.1 hP 0 rfl rfl 9 (by decide) (hts _ hf_X3_side_34) (fun _ h9 => h9) rfl dX3_side_32 ?_
    refine lv_iload_n hx hb dX3_side_35 rfl (lv_at hl 1 rfl) ?_
    refine pw_iald hx hb hK.1 hP 9 0 rfl rfl (by decide) (by omega) dX3_side_36 ?_
    refine lv_iconst (v := nI 1) hx hb dX3_side_37 (by decide) ?_
    refine lv_icmp_ne (tgt := 44) hx hb dX3_side_38 (by decide) (fun c_2 => ?_) (fun c_2 => ?_)
    · have _h := c_2
      refine lv_iload_n hx hb dX3_side_44 rfl (lv_at hl 2 rfl) ?_
      refine lv_iconst (v := nI 1) hx hb dX3_side_45 (by decide) ?_
      refine lv_icmp_le (tgt := 56) hx hb dX3_side_46 (by decide) (fun c => absurd c (by decide)) (fun c => ?_)
      refine lv_aload_n hx hb dX3_side_49 rfl (lv_at hl 0 rfl) ?_
      refine va_get (D := D) (ci := 3) (v := .ref pl) (C := RX3) (T := TX3) (N := 11) hx hb hts hi_X3_side_3 hown hK.1 hP 0 rfl rfl 5 (by decide) (hts _ hf_X3_side_22) (fun _ h9 => h9) rfl dX3_side_50 ?_
      refine lv_iload_n hx hb dX3_side_53 rfl (lv_at hl 1 rfl) ?_
      refine pw_iald hx hb hK.1 hP 5 0 rfl rfl (by decide) (by omega) dX3_side_54 ?_
      refine pw_top (y := nI q) hPq ?_
      exact pw_piret hx hb hr (rfl) hlocks dX3_side_55 (rfl)
    · exact absurd c_2 hO
  · exact absurd c_1 hR1
set_option maxHeartbeats 4000000 in
set_option maxRecDepth 100000 in
theorem m_bh_n (l : Launch) (D : va_G) (cI cP cR : ClassId) (x t z rf rw pl hd ha lo ol as_ md : Nat) (T : Nat → Nat → Int32) (Z : Nat → Nat) (RF R P Hd HA Lo Ol AS : Nat → Int32) (p : Nat) (hp4 : p < 4) (hR : R p = -1) : pw_Mp l yX3_barsHand wsX3_barsHand ({ frames := 2, cells := 0, slots := 0, locals := 43 } : Room) D cI cP cR [.ref x, .int (nI p)] ([(x, .inr (3, [.ref t, .ref z, .int (nI md), .ref rf, .ref rw, .ref pl, .ref hd, .ref ha, .ref lo, .ref ol, .ref as_])), (t, .inl (cI, 192, .inl (flT T))), (z, .inl (cI, 3, .inl (zI Z))), (rf, .inl (cI, 4, .inl (RF))), (rw, .inl (cI, 4, .inl (R))), (pl, .inl (cI, 4, .inl (P))), (hd, .inl (cI, 4, .inl (Hd))), (ha, .inl (cI, 4, .inl (HA))), (lo, .inl (cI, 4, .inl (Lo))), (ol, .inl (cI, 4, .inl (Ol))), (as_, .inl (cI, 64, .inl (AS)))]) (.int (-2)) := by
  refine pw_ofp (cc := cX3_barsHand) (maxL := 3) (ret := (some .int)) (own := RX3) (by decide +kernel) rfl rfl (Nat.le_of_ble_eq_true rfl) ?_
  intro p_ e_ s m bel meth cd hE hK hP hD ls hl
  obtain ⟨hx, hb, hr, hml, hown, hts, hlocks⟩ := hE
  have hNW := hK.2
  have hl : lv_has ls 3 [(0, .ref x), (1, .int (nI p))] := hl
  refine lv_aload_n hx hb dX3_barsHand_0 rfl (lv_at hl 0 rfl) ?_
  refine lv_iload_n hx hb dX3_barsHand_1 rfl (lv_at hl 1 rfl) ?_
  -- m_bars_n
  refine pw_cVp (As := [.int (nI p)]) (rest := []) (wc := [(x, .inr (3, [.ref t, .ref z, .int (nI md), .ref rf, .ref rw, .ref pl, .ref hd, .ref ha, .ref lo, .ref ol, .ref as_])), (rf, .inl (cI, 4, .inl (RF))), (rw, .inl (cI, 4, .inl (R))), (ol, .inl (cI, 4, .inl (Ol)))]) ⟨hx, hb, hml, hown, hts⟩ (m_bars_n l D cI cP cR x t z rf rw pl hd ha lo ol as_ md RF R Ol p (by omega) hR) (cwV 1 hts gX3_barsHand_X3_bars rfl rfl rfl (by decide +kernel) ⟨Nat.le_of_ble_eq_true rfl, Nat.le_of_ble_eq_true rfl⟩) hK hP hD [0, 3, 4, 9] rfl (by decide) 0 rfl rfl rfl rfl hl.1 rfl (Nat.le_of_ble_eq_true rfl) dX3_barsHand_2 ⟨Nat.zero_le _, Nat.zero_le _⟩ ?_
  refine lv_istore_n (lv' := [(2, .int (-2)), (0, .ref x), (1, .int (nI p))]) hx hb dX3_barsHand_5 rfl hl (by decide) rfl (fun ls hl => ?_)
  refine lv_iload_n hx hb dX3_barsHand_6 rfl (lv_at hl 0 rfl) ?_
  refine lv_if_ge (tgt := 12) hx hb dX3_barsHand_7 (by decide) (fun c => absurd c (by decide)) (fun c => ?_)
  refine lv_iload_n hx hb dX3_barsHand_10 rfl (lv_at hl 0 rfl) ?_
  exact pw_piret hx hb hr (rfl) hlocks dX3_barsHand_11 (rfl)
set_option maxHeartbeats 4000000 in
set_option maxRecDepth 100000 in
theorem m_bh_o (l : Launch) (D : va_G) (cI cP cR : ClassId) (x t z rf rw pl hd ha lo ol as_ md : Nat) (T : Nat → Nat → Int32) (Z : Nat → Nat) (RF R P Hd HA Lo Ol AS : Nat → Int32) (p : Nat) (hp4 : p < 4) (hR1 : ¬ R p = -1) (hO : Ol p = nI 1) : pw_Mm l yX3_barsHand wsX3_barsHand ({ frames := 2, cells := 0, slots := 0, locals := 43 } : Room) D cI cP cR [.ref x, .int (nI p)] ([(x, .inr (3, [.ref t, .ref z, .int (nI md), .ref rf, .ref rw, .ref pl, .ref hd, .ref ha, .ref lo, .ref ol, .ref as_])), (t, .inl (cI, 192, .inl (flT T))), (z, .inl (cI, 3, .inl (zI Z))), (rf, .inl (cI, 4, .inl (RF))), (rw, .inl (cI, 4, .inl (R))), (pl, .inl (cI, 4, .inl (P))), (hd, .inl (cI, 4, .inl (Hd))), (ha, .inl (cI, 4, .inl (HA))), (lo, .inl (cI, 4, .inl (Lo))), (ol, .inl (cI, 4, .inl (Ol))), (as_, .inl (cI, 64, .inl (AS)))]) (fun v w => v = some (.int (-4)) ∧ w = [(x, .inr (3, [.ref t, .ref z, .int (nI md), .ref rf, .ref rw, .ref pl, .ref hd, .ref ha, .ref lo, .ref ol, .ref as_])), (t, .inl (cI, 192, .inl (flT T))), (z, .inl (cI, 3, .inl (zI Z))), (rf, .inl (cI, 4, .inl (upd RF 3 (RF 3 + nI 1)))), (rw, .inl (cI, 4, .inl (R))), (pl, .inl (cI, 4, .inl (P))), (hd, .inl (cI, 4, .inl (Hd))), (ha, .inl (cI, 4, .inl (HA))), (lo, .inl (cI, 4, .inl (Lo))), (ol, .inl (cI, 4, .inl (Ol))), (as_, .inl (cI, 64, .inl (AS)))]) := by
  refine pw_ofm (cc := cX3_barsHand) (maxL := 3) (ret := (some .int)) (own := RX3) (by decide +kernel) rfl rfl (Nat.le_of_ble_eq_true rfl) ?_
  intro p_ e_ s m bel meth cd A hE hK hP hD hA hS ls hl
  obtain ⟨hx, hb, hr, hml, hown, hts, hlocks⟩ := hE
  have hNW := hK.2
  have hl : lv_has ls 3 [(0, .ref x), (1, .int (nI p))] := hl
  refine lv_aload_n hx hb dX3_barsHand_0 rfl (lv_at hl 0 rfl) ?_
  refine lv_iload_n hx hb dX3_barsHand_1 rfl (lv_at hl 1 rfl) ?_
  -- m_bars_o
  refine pw_cVm (As := [.int (nI p)]) (rest := []) (wc := [(x, .inr (3, [.ref t, .ref z, .int (nI md), .ref rf, .ref rw, .ref pl, .ref hd, .ref ha, .ref lo, .ref ol, .ref as_])), (rf, .inl (cI, 4, .inl (RF))), (rw, .inl (cI, 4, .inl (R))), (ol, .inl (cI, 4, .inl (Ol)))]) (wr := [(t, .inl (cI, 192, .inl (flT T))), (z, .inl (cI, 3, .inl (zI Z))), (pl, .inl (cI, 4, .inl (P))), (hd, .inl (cI, 4, .inl (Hd))), (ha, .inl (cI, 4, .inl (HA))), (lo, .inl (cI, 4, .inl (Lo))), (as_, .inl (cI, 64, .inl (AS)))]) ⟨hx, hb, hml, hown, hts⟩ (m_bars_o l D cI cP cR x t z rf rw pl hd ha lo ol as_ md RF R Ol p (by omega) hR1 hO) (cwV 1 hts gX3_barsHand_X3_bars rfl rfl rfl (by decide +kernel) ⟨Nat.le_of_ble_eq_true rfl, Nat.le_of_ble_eq_true rfl⟩) hK hP hD hS hA [0, 3, 4, 9] [1, 2, 5, 6, 7, 8, 10] rfl rfl (by decide) (by decide) (by decide) 0 rfl rfl rfl rfl hl.1 rfl (Nat.le_of_ble_eq_true rfl) dX3_barsHand_2 ⟨Nat.zero_le _, Nat.zero_le _⟩ (fun v1 w1 H locs hq hP hD hS => ?_)
  rcases hq with ⟨rfl, rfl⟩
  have hP : va_P D vwCl ([(t, .inl (cI, 192, .inl (flT T))), (z, .inl (cI, 3, .inl (zI Z))), (pl, .inl (cI, 4, .inl (P))), (hd, .inl (cI, 4, .inl (Hd))), (ha, .inl (cI, 4, .inl (HA))), (lo, .inl (cI, 4, .inl (Lo))), (as_, .inl (cI, 64, .inl (AS))), (x, .inr (3, [.ref t, .ref z, .int (nI md), .ref rf, .ref rw, .ref pl, .ref hd, .ref ha, .ref lo, .ref ol, .ref as_])), (rf, .inl (cI, 4, .inl (upd RF 3 (RF 3 + nI 1)))), (rw, .inl (cI, 4, .inl (R))), (ol, .inl (cI, 4, .inl (Ol)))]) H := hP
  have hD : va_D A ([(t, .inl (cI, 192, .inl (flT T))), (z, .inl (cI, 3, .inl (zI Z))), (pl, .inl (cI, 4, .inl (P))), (hd, .inl (cI, 4, .inl (Hd))), (ha, .inl (cI, 4, .inl (HA))), (lo, .inl (cI, 4, .inl (Lo))), (as_, .inl (cI, 64, .inl (AS))), (x, .inr (3, [.ref t, .ref z, .int (nI md), .ref rf, .ref rw, .ref pl, .ref hd, .ref ha, .ref lo, .ref ol, .ref as_])), (rf, .inl (cI, 4, .inl (upd RF 3 (RF 3 + nI 1)))), (rw, .inl (cI, 4, .inl (R))), (ol, .inl (cI, 4, .inl (Ol)))]) := hD
  refine W.eq (g2 := F0 m 5 ls [.int (-4)]) rfl ?_
  refine lv_istore_n (lv' := [(2, .int (-4)), (0, .ref x), (1, .int (nI p))]) hx hb dX3_barsHand_5 rfl hl (by decide) rfl (fun ls hl => ?_)
  refine lv_iload_n hx hb dX3_barsHand_6 rfl (lv_at hl 0 rfl) ?_
  refine lv_if_ge (tgt := 12) hx hb dX3_barsHand_7 (by decide) (fun c => absurd c (by decide)) (fun c => ?_)
  refine lv_iload_n hx hb dX3_barsHand_10 rfl (lv_at hl 0 rfl) ?_
  have hP := hP.sub (ws' := [(x, .inr (3, [.ref t, .ref z, .int (nI md), .ref rf, .ref rw, .ref pl, .ref hd, .ref ha, .ref lo, .ref ol, .ref as_])), (t, .inl (cI, 192, .inl (flT T))), (z, .inl (cI, 3, .inl (zI Z))), (rf, .inl (cI, 4, .inl (upd RF 3 (RF 3 + nI 1)))), (rw, .inl (cI, 4, .inl (R))), (pl, .inl (cI, 4, .inl (P))), (hd, .inl (cI, 4, .inl (Hd))), (ha, .inl (cI, 4, .inl (HA))), (lo, .inl (cI, 4, .inl (Lo))), (ol, .inl (cI, 4, .inl (Ol))), (as_, .inl (cI, 64, .inl (AS)))]) [7, 0, 1, 8, 9, 2, 3, 4, 5, 10, 6] rfl
  have hD := hD.sub (ws' := [(x, .inr (3, [.ref t, .ref z, .int (nI md), .ref rf, .ref rw, .ref pl, .ref hd, .ref ha, .ref lo, .ref ol, .ref as_])), (t, .inl (cI, 192, .inl (flT T))), (z, .inl (cI, 3, .inl (zI Z))), (rf, .inl (cI, 4, .inl (upd RF 3 (RF 3 + nI 1)))), (rw, .inl (cI, 4, .inl (R))), (pl, .inl (cI, 4, .inl (P))), (hd, .inl (cI, 4, .inl (Hd))), (ha, .inl (cI, 4, .inl (HA))), (lo, .inl (cI, 4, .inl (Lo))), (ol, .inl (cI, 4, .inl (Ol))), (as_, .inl (cI, 64, .inl (AS)))]) [7, 0, 1, 8, 9, 2, 3, 4, 5, 10, 6] (by decide) rfl
  exact pw_iret hx hb hr (rfl) hlocks dX3_barsHand_11 hS hP hD (⟨rfl, rfl⟩)
theorem hi_X3_barsHand_3 : ∀ w ∈ u_ws RX3 TX3 11, w ∈ wsX3_barsHand := by decide +kernel
theorem hf_X3_barsHand_31 : Cond.fieldLink RX3 31 "PegrowModel" "isLost" "[I" ∈ wsX3_barsHand := by decide +kernel
set_option maxHeartbeats 4000000 in
set_option maxRecDepth 100000 in
theorem m_bh_m (l : Launch) (D : va_G) (cI cP cR : ClassId) (x t z rf rw pl hd ha lo ol as_ md : Nat) (T : Nat → Nat → Int32) (Z : Nat → Nat) (RF R P Hd HA Lo Ol AS : Nat → Int32) (p : Nat) (hp4 : p < 4) (hR1 : ¬ R p = -1) (hO : ¬ Ol p = nI 1) (hL : Lo p = nI 1) : pw_Mp l yX3_barsHand wsX3_barsHand ({ frames := 2, cells := 0, slots := 0, locals := 43 } : Room) D cI cP cR [.ref x, .int (nI p)] ([(x, .inr (3, [.ref t, .ref z, .int (nI md), .ref rf, .ref rw, .ref pl, .ref hd, .ref ha, .ref lo, .ref ol, .ref as_])), (t, .inl (cI, 192, .inl (flT T))), (z, .inl (cI, 3, .inl (zI Z))), (rf, .inl (cI, 4, .inl (RF))), (rw, .inl (cI, 4, .inl (R))), (pl, .inl (cI, 4, .inl (P))), (hd, .inl (cI, 4, .inl (Hd))), (ha, .inl (cI, 4, .inl (HA))), (lo, .inl (cI, 4, .inl (Lo))), (ol, .inl (cI, 4, .inl (Ol))), (as_, .inl (cI, 64, .inl (AS)))]) (.int (-8)) := by
  refine pw_ofp (cc := cX3_barsHand) (maxL := 3) (ret := (some .int)) (own := RX3) (by decide +kernel) rfl rfl (Nat.le_of_ble_eq_true rfl) ?_
  intro p_ e_ s m bel meth cd hE hK hP hD ls hl
  obtain ⟨hx, hb, hr, hml, hown, hts, hlocks⟩ := hE
  have hNW := hK.2
  have hl : lv_has ls 3 [(0, .ref x), (1, .int (nI p))] := hl
  refine lv_aload_n hx hb dX3_barsHand_0 rfl (lv_at hl 0 rfl) ?_
  refine lv_iload_n hx hb dX3_barsHand_1 rfl (lv_at hl 1 rfl) ?_
  -- m_bars
  refine pw_cVp (As := [.int (nI p)]) (rest := []) (wc := [(x, .inr (3, [.ref t, .ref z, .int (nI md), .ref rf, .ref rw, .ref pl, .ref hd, .ref ha, .ref lo, .ref ol, .ref as_])), (rf, .inl (cI, 4, .inl (RF))), (rw, .inl (cI, 4, .inl (R))), (ol, .inl (cI, 4, .inl (Ol)))]) ⟨hx, hb, hml, hown, hts⟩ (m_bars l D cI cP cR x t z rf rw pl hd ha lo ol as_ md RF R Ol p (by omega) hR1 hO) (cwV 1 hts gX3_barsHand_X3_bars rfl rfl rfl (by decide +kernel) ⟨Nat.le_of_ble_eq_true rfl, Nat.le_of_ble_eq_true rfl⟩) hK hP hD [0, 3, 4, 9] rfl (by decide) 0 rfl rfl rfl rfl hl.1 rfl (Nat.le_of_ble_eq_true rfl) dX3_barsHand_2 ⟨Nat.zero_le _, Nat.zero_le _⟩ ?_
  refine lv_istore_n (lv' := [(2, .int (nI 0)), (0, .ref x), (1, .int (nI p))]) hx hb dX3_barsHand_5 rfl hl (by decide) rfl (fun ls hl => ?_)
  refine lv_iload_n hx hb dX3_barsHand_6 rfl (lv_at hl 0 rfl) ?_
  refine lv_if_ge (tgt := 12) hx hb dX3_barsHand_7 (by decide) (fun c => ?_) (fun c => absurd c (by decide))
  refine lv_aload_n hx hb dX3_barsHand_12 rfl (lv_at hl 1 rfl) ?_
  refine va_get (D := D) (ci := 3) (v := .ref lo) (C := RX3) (T := TX3) (N := 11) hx hb hts hi_X3_barsHand_3 hown hK.1 hP 0 rfl rfl 8 (by decide) (hts _ hf_X3_barsHand_31) (fun _ h9 => h9) rfl dX3_barsHand_13 ?_
  refine lv_iload_n hx hb dX3_barsHand_16 rfl (lv_at hl 2 rfl) ?_
  refine pw_iald hx hb hK.1 hP 8 0 rfl rfl (by decide) (by omega) dX3_barsHand_17 ?_
  refine lv_iconst (v := nI 1) hx hb dX3_barsHand_18 (by decide) ?_
  refine lv_icmp_ne (tgt := 25) hx hb dX3_barsHand_19 (by decide) (fun c_1 => ?_) (fun c_1 => ?_)
  · exact absurd hL c_1
  · have _h := c_1
    refine lv_bipush (v := -8) hx hb dX3_barsHand_22 (by decide) ?_
    exact pw_piret hx hb hr (rfl) hlocks dX3_barsHand_24 (rfl)
theorem hf_X3_barsHand_25 : Cond.fieldLink RX3 25 "PegrowModel" "hand" "[I" ∈ wsX3_barsHand := by decide +kernel
set_option maxHeartbeats 4000000 in
set_option maxRecDepth 100000 in
theorem m_bh_s (l : Launch) (D : va_G) (cI cP cR : ClassId) (x t z rf rw pl hd ha lo ol as_ md : Nat) (T : Nat → Nat → Int32) (Z : Nat → Nat) (RF R P Hd HA Lo Ol AS : Nat → Int32) (p : Nat) (hp4 : p < 4) (hR1 : ¬ R p = -1) (hO : ¬ Ol p = nI 1) (hL : ¬ Lo p = nI 1) (hH : Hd p = -1) : pw_Mm l yX3_barsHand wsX3_barsHand ({ frames := 2, cells := 0, slots := 0, locals := 43 } : Room) D cI cP cR [.ref x, .int (nI p)] ([(x, .inr (3, [.ref t, .ref z, .int (nI md), .ref rf, .ref rw, .ref pl, .ref hd, .ref ha, .ref lo, .ref ol, .ref as_])), (t, .inl (cI, 192, .inl (flT T))), (z, .inl (cI, 3, .inl (zI Z))), (rf, .inl (cI, 4, .inl (RF))), (rw, .inl (cI, 4, .inl (R))), (pl, .inl (cI, 4, .inl (P))), (hd, .inl (cI, 4, .inl (Hd))), (ha, .inl (cI, 4, .inl (HA))), (lo, .inl (cI, 4, .inl (Lo))), (ol, .inl (cI, 4, .inl (Ol))), (as_, .inl (cI, 64, .inl (AS)))]) (fun v w => v = some (.int (-7)) ∧ w = [(x, .inr (3, [.ref t, .ref z, .int (nI md), .ref rf, .ref rw, .ref pl, .ref hd, .ref ha, .ref lo, .ref ol, .ref as_])), (t, .inl (cI, 192, .inl (flT T))), (z, .inl (cI, 3, .inl (zI Z))), (rf, .inl (cI, 4, .inl (upd RF 2 (RF 2 + nI 1)))), (rw, .inl (cI, 4, .inl (R))), (pl, .inl (cI, 4, .inl (P))), (hd, .inl (cI, 4, .inl (Hd))), (ha, .inl (cI, 4, .inl (HA))), (lo, .inl (cI, 4, .inl (Lo))), (ol, .inl (cI, 4, .inl (Ol))), (as_, .inl (cI, 64, .inl (AS)))]) := by
  refine pw_ofm (cc := cX3_barsHand) (maxL := 3) (ret := (some .int)) (own := RX3) (by decide +kernel) rfl rfl (Nat.le_of_ble_eq_true rfl) ?_
  intro p_ e_ s m bel meth cd A hE hK hP hD hA hS ls hl
  obtain ⟨hx, hb, hr, hml, hown, hts, hlocks⟩ := hE
  have hNW := hK.2
  have hl : lv_has ls 3 [(0, .ref x), (1, .int (nI p))] := hl
  refine lv_aload_n hx hb dX3_barsHand_0 rfl (lv_at hl 0 rfl) ?_
  refine lv_iload_n hx hb dX3_barsHand_1 rfl (lv_at hl 1 rfl) ?_
  -- m_bars
  refine pw_cVp (As := [.int (nI p)]) (rest := []) (wc := [(x, .inr (3, [.ref t, .ref z, .int (nI md), .ref rf, .ref rw, .ref pl, .ref hd, .ref ha, .ref lo, .ref ol, .ref as_])), (rf, .inl (cI, 4, .inl (RF))), (rw, .inl (cI, 4, .inl (R))), (ol, .inl (cI, 4, .inl (Ol)))]) ⟨hx, hb, hml, hown, hts⟩ (m_bars l D cI cP cR x t z rf rw pl hd ha lo ol as_ md RF R Ol p (by omega) hR1 hO) (cwV 1 hts gX3_barsHand_X3_bars rfl rfl rfl (by decide +kernel) ⟨Nat.le_of_ble_eq_true rfl, Nat.le_of_ble_eq_true rfl⟩) hK hP hD [0, 3, 4, 9] rfl (by decide) 0 rfl rfl rfl rfl hl.1 rfl (Nat.le_of_ble_eq_true rfl) dX3_barsHand_2 ⟨Nat.zero_le _, Nat.zero_le _⟩ ?_
  refine lv_istore_n (lv' := [(2, .int (nI 0)), (0, .ref x), (1, .int (nI p))]) hx hb dX3_barsHand_5 rfl hl (by decide) rfl (fun ls hl => ?_)
  refine lv_iload_n hx hb dX3_barsHand_6 rfl (lv_at hl 0 rfl) ?_
  refine lv_if_ge (tgt := 12) hx hb dX3_barsHand_7 (by decide) (fun c => ?_) (fun c => absurd c (by decide))
  refine lv_aload_n hx hb dX3_barsHand_12 rfl (lv_at hl 1 rfl) ?_
  refine va_get (D := D) (ci := 3) (v := .ref lo) (C := RX3) (T := TX3) (N := 11) hx hb hts hi_X3_barsHand_3 hown hK.1 hP 0 rfl rfl 8 (by decide) (hts _ hf_X3_barsHand_31) (fun _ h9 => h9) rfl dX3_barsHand_13 ?_
  refine lv_iload_n hx hb dX3_barsHand_16 rfl (lv_at hl 2 rfl) ?_
  refine pw_iald hx hb hK.1 hP 8 0 rfl rfl (by decide) (by omega) dX3_barsHand_17 ?_
  refine lv_iconst (v := nI 1) hx hb dX3_barsHand_18 (by decide) ?_
  refine lv_icmp_ne (tgt := 25) hx hb dX3_barsHand_19 (by decide) (fun c_1 => ?_) (fun c_1 => ?_)
  · have _h := c_1
    refine lv_aload_n hx hb dX3_barsHand_25 rfl (lv_at hl 1 rfl) ?_
    refine va_get (D := D) (ci := 3) (v := .ref hd) (C := RX3) (T := TX3) (N := 11) hx hb hts hi_X3_barsHand_3 hown hK.1 hP 0 rfl rfl 6 (by decide) (hts _ hf_X3_barsHand_25) (fun _ h9 => h9) rfl dX3_barsHand_26 ?_
    refine lv_iload_n hx hb dX3_barsHand_29 rfl (lv_at hl 2 rfl) ?_
    refine pw_iald hx hb hK.1 hP 6 0 rfl rfl (by decide) (by omega) dX3_barsHand_30 ?_
    refine lv_iconst (v := -1) hx hb dX3_barsHand_31 (by decide) ?_
    refine lv_icmp_ne (tgt := 43) hx hb dX3_barsHand_32 (by decide) (fun c_2 => ?_) (fun c_2 => ?_)
    · exact absurd hH c_2
    · have _h := c_2
      refine lv_aload_n hx hb dX3_barsHand_35 rfl (lv_at hl 1 rfl) ?_
      refine lv_iconst (v := nI 2) hx hb dX3_barsHand_36 (by decide) ?_
      refine lv_bipush (v := -7) hx hb dX3_barsHand_37 (by decide) ?_
      -- m_refuse
      refine pw_cVm (As := [.int (nI 2), .int (-7)]) (rest := []) (wc := [(x, .inr (3, [.ref t, .ref z, .int (nI md), .ref rf, .ref rw, .ref pl, .ref hd, .ref ha, .ref lo, .ref ol, .ref as_])), (rf, .inl (cI, 4, .inl (RF)))]) (wr := [(t, .inl (cI, 192, .inl (flT T))), (z, .inl (cI, 3, .inl (zI Z))), (rw, .inl (cI, 4, .inl (R))), (pl, .inl (cI, 4, .inl (P))), (hd, .inl (cI, 4, .inl (Hd))), (ha, .inl (cI, 4, .inl (HA))), (lo, .inl (cI, 4, .inl (Lo))), (ol, .inl (cI, 4, .inl (Ol))), (as_, .inl (cI, 64, .inl (AS)))]) ⟨hx, hb, hml, hown, hts⟩ (m_refuse l D cI cP cR x t z rf rw pl hd ha lo ol as_ md RF 2 (-7) (by decide)) (cwV 2 hts gX3_barsHand_X3_refuse rfl rfl rfl (by decide +kernel) ⟨Nat.le_of_ble_eq_true rfl, Nat.le_of_ble_eq_true rfl⟩) hK hP hD hS hA [0, 3] [1, 2, 4, 5, 6, 7, 8, 9, 10] rfl rfl (by decide) (by decide) (by decide) 0 rfl rfl rfl rfl hl.1 rfl (Nat.le_of_ble_eq_true rfl) dX3_barsHand_39 ⟨Nat.zero_le _, Nat.zero_le _⟩ (fun v1 w1 H locs hq hP hD hS => ?_)
      rcases hq with ⟨rfl, rfl⟩
      have hP : va_P D vwCl ([(t, .inl (cI, 192, .inl (flT T))), (z, .inl (cI, 3, .inl (zI Z))), (rw, .inl (cI, 4, .inl (R))), (pl, .inl (cI, 4, .inl (P))), (hd, .inl (cI, 4, .inl (Hd))), (ha, .inl (cI, 4, .inl (HA))), (lo, .inl (cI, 4, .inl (Lo))), (ol, .inl (cI, 4, .inl (Ol))), (as_, .inl (cI, 64, .inl (AS))), (x, .inr (3, [.ref t, .ref z, .int (nI md), .ref rf, .ref rw, .ref pl, .ref hd, .ref ha, .ref lo, .ref ol, .ref as_])), (rf, .inl (cI, 4, .inl (upd RF 2 (RF 2 + nI 1))))]) H := hP
      have hD : va_D A ([(t, .inl (cI, 192, .inl (flT T))), (z, .inl (cI, 3, .inl (zI Z))), (rw, .inl (cI, 4, .inl (R))), (pl, .inl (cI, 4, .inl (P))), (hd, .inl (cI, 4, .inl (Hd))), (ha, .inl (cI, 4, .inl (HA))), (lo, .inl (cI, 4, .inl (Lo))), (ol, .inl (cI, 4, .inl (Ol))), (as_, .inl (cI, 64, .inl (AS))), (x, .inr (3, [.ref t, .ref z, .int (nI md), .ref rf, .ref rw, .ref pl, .ref hd, .ref ha, .ref lo, .ref ol, .ref as_])), (rf, .inl (cI, 4, .inl (upd RF 2 (RF 2 + nI 1))))]) := hD
      refine W.eq (g2 := F0 m 42 ls [.int (-7)]) rfl ?_
      have hP := hP.sub (ws' := [(x, .inr (3, [.ref t, .ref z, .int (nI md), .ref rf, .ref rw, .ref pl, .ref hd, .ref ha, .ref lo, .ref ol, .ref as_])), (t, .inl (cI, 192, .inl (flT T))), (z, .inl (cI, 3, .inl (zI Z))), (rf, .inl (cI, 4, .inl (upd RF 2 (RF 2 + nI 1)))), (rw, .inl (cI, 4, .inl (R))), (pl, .inl (cI, 4, .inl (P))), (hd, .inl (cI, 4, .inl (Hd))), (ha, .inl (cI, 4, .inl (HA))), (lo, .inl (cI, 4, .inl (Lo))), (ol, .inl (cI, 4, .inl (Ol))), (as_, .inl (cI, 64, .inl (AS)))]) [9, 0, 1, 10, 2, 3, 4, 5, 6, 7, 8] rfl
      have hD := hD.sub (ws' := [(x, .inr (3, [.ref t, .ref z, .int (nI md), .ref rf, .ref rw, .ref pl, .ref hd, .ref ha, .ref lo, .ref ol, .ref as_])), (t, .inl (cI, 192, .inl (flT T))), (z, .inl (cI, 3, .inl (zI Z))), (rf, .inl (cI, 4, .inl (upd RF 2 (RF 2 + nI 1)))), (rw, .inl (cI, 4, .inl (R))), (pl, .inl (cI, 4, .inl (P))), (hd, .inl (cI, 4, .inl (Hd))), (ha, .inl (cI, 4, .inl (HA))), (lo, .inl (cI, 4, .inl (Lo))), (ol, .inl (cI, 4, .inl (Ol))), (as_, .inl (cI, 64, .inl (AS)))]) [9, 0, 1, 10, 2, 3, 4, 5, 6, 7, 8] (by decide) rfl
      exact pw_iret hx hb hr (rfl) hlocks dX3_barsHand_42 hS hP hD (⟨rfl, rfl⟩)
  · exact absurd c_1 hL
theorem hf_X3_barsHand_19 : Cond.fieldLink RX3 19 "PegrowModel" "rowOf" "[I" ∈ wsX3_barsHand := by decide +kernel
theorem hf_X3_barsHand_28 : Cond.fieldLink RX3 28 "PegrowModel" "handAt" "[I" ∈ wsX3_barsHand := by decide +kernel
set_option maxHeartbeats 4000000 in
set_option maxRecDepth 100000 in
theorem m_bh_l (l : Launch) (D : va_G) (cI cP cR : ClassId) (x t z rf rw pl hd ha lo ol as_ md : Nat) (T : Nat → Nat → Int32) (Z : Nat → Nat) (RF R P Hd HA Lo Ol AS : Nat → Int32) (p i : Nat) (hp4 : p < 4) (hi : i < 3) (hz : Z i ≤ 60) (hR : R p = nI i) (hO : ¬ Ol p = nI 1) (hL : ¬ Lo p = nI 1) (hH : ¬ Hd p = -1) (j : Nat) (hj : j < Z i) (hA_ : HA p = nI j) (hd_ : ¬ T i j = Hd p) : pw_Mp l yX3_barsHand wsX3_barsHand ({ frames := 2, cells := 0, slots := 0, locals := 43 } : Room) D cI cP cR [.ref x, .int (nI p)] ([(x, .inr (3, [.ref t, .ref z, .int (nI md), .ref rf, .ref rw, .ref pl, .ref hd, .ref ha, .ref lo, .ref ol, .ref as_])), (t, .inl (cI, 192, .inl (flT T))), (z, .inl (cI, 3, .inl (zI Z))), (rf, .inl (cI, 4, .inl (RF))), (rw, .inl (cI, 4, .inl (R))), (pl, .inl (cI, 4, .inl (P))), (hd, .inl (cI, 4, .inl (Hd))), (ha, .inl (cI, 4, .inl (HA))), (lo, .inl (cI, 4, .inl (Lo))), (ol, .inl (cI, 4, .inl (Ol))), (as_, .inl (cI, 64, .inl (AS)))]) (.int (-8)) := by
  refine pw_ofp (cc := cX3_barsHand) (maxL := 3) (ret := (some .int)) (own := RX3) (by decide +kernel) rfl rfl (Nat.le_of_ble_eq_true rfl) ?_
  intro p_ e_ s m bel meth cd hE hK hP hD ls hl
  obtain ⟨hx, hb, hr, hml, hown, hts, hlocks⟩ := hE
  have hNW := hK.2
  have hl : lv_has ls 3 [(0, .ref x), (1, .int (nI p))] := hl
  have hR1 : ¬ R p = -1 := by rw [hR]; exact pw_nm1 (by omega)
  refine lv_aload_n hx hb dX3_barsHand_0 rfl (lv_at hl 0 rfl) ?_
  refine lv_iload_n hx hb dX3_barsHand_1 rfl (lv_at hl 1 rfl) ?_
  -- m_bars
  refine pw_cVp (As := [.int (nI p)]) (rest := []) (wc := [(x, .inr (3, [.ref t, .ref z, .int (nI md), .ref rf, .ref rw, .ref pl, .ref hd, .ref ha, .ref lo, .ref ol, .ref as_])), (rf, .inl (cI, 4, .inl (RF))), (rw, .inl (cI, 4, .inl (R))), (ol, .inl (cI, 4, .inl (Ol)))]) ⟨hx, hb, hml, hown, hts⟩ (m_bars l D cI cP cR x t z rf rw pl hd ha lo ol as_ md RF R Ol p (by omega) hR1 hO) (cwV 1 hts gX3_barsHand_X3_bars rfl rfl rfl (by decide +kernel) ⟨Nat.le_of_ble_eq_true rfl, Nat.le_of_ble_eq_true rfl⟩) hK hP hD [0, 3, 4, 9] rfl (by decide) 0 rfl rfl rfl rfl hl.1 rfl (Nat.le_of_ble_eq_true rfl) dX3_barsHand_2 ⟨Nat.zero_le _, Nat.zero_le _⟩ ?_
  refine lv_istore_n (lv' := [(2, .int (nI 0)), (0, .ref x), (1, .int (nI p))]) hx hb dX3_barsHand_5 rfl hl (by decide) rfl (fun ls hl => ?_)
  refine lv_iload_n hx hb dX3_barsHand_6 rfl (lv_at hl 0 rfl) ?_
  refine lv_if_ge (tgt := 12) hx hb dX3_barsHand_7 (by decide) (fun c => ?_) (fun c => absurd c (by decide))
  refine lv_aload_n hx hb dX3_barsHand_12 rfl (lv_at hl 1 rfl) ?_
  refine va_get (D := D) (ci := 3) (v := .ref lo) (C := RX3) (T := TX3) (N := 11) hx hb hts hi_X3_barsHand_3 hown hK.1 hP 0 rfl rfl 8 (by decide) (hts _ hf_X3_barsHand_31) (fun _ h9 => h9) rfl dX3_barsHand_13 ?_
  refine lv_iload_n hx hb dX3_barsHand_16 rfl (lv_at hl 2 rfl) ?_
  refine pw_iald hx hb hK.1 hP 8 0 rfl rfl (by decide) (by omega) dX3_barsHand_17 ?_
  refine lv_iconst (v := nI 1) hx hb dX3_barsHand_18 (by decide) ?_
  refine lv_icmp_ne (tgt := 25) hx hb dX3_barsHand_19 (by decide) (fun c_1 => ?_) (fun c_1 => ?_)
  · have _h := c_1
    refine lv_aload_n hx hb dX3_barsHand_25 rfl (lv_at hl 1 rfl) ?_
    refine va_get (D := D) (ci := 3) (v := .ref hd) (C := RX3) (T := TX3) (N := 11) hx hb hts hi_X3_barsHand_3 hown hK.1 hP 0 rfl rfl 6 (by decide) (hts _ hf_X3_barsHand_25) (fun _ h9 => h9) rfl dX3_barsHand_26 ?_
    refine lv_iload_n hx hb dX3_barsHand_29 rfl (lv_at hl 2 rfl) ?_
    refine pw_iald hx hb hK.1 hP 6 0 rfl rfl (by decide) (by omega) dX3_barsHand_30 ?_
    refine lv_iconst (v := -1) hx hb dX3_barsHand_31 (by decide) ?_
    refine lv_icmp_ne (tgt := 43) hx hb dX3_barsHand_32 (by decide) (fun c_2 => ?_) (fun c_2 => ?_)
    · have _h := c_2
      refine lv_aload_n hx hb dX3_barsHand_43 rfl (lv_at hl 1 rfl) ?_
      refine lv_aload_n hx hb dX3_barsHand_44 rfl (lv_at hl 1 rfl) ?_
      refine va_get (D := D) (ci := 3) (v := .ref rw) (C := RX3) (T := TX3) (N := 11) hx hb hts hi_X3_barsHand_3 hown hK.1 hP 0 rfl rfl 4 (by decide) (hts _ hf_X3_barsHand_19) (fun _ h9 => h9) rfl dX3_barsHand_45 ?_
      refine lv_iload_n hx hb dX3_barsHand_48 rfl (lv_at hl 2 rfl) ?_
      refine pw_iald hx hb hK.1 hP 4 0 rfl rfl (by decide) (by omega) dX3_barsHand_49 ?_
      refine pw_top (y := nI i) hR ?_
      refine lv_aload_n hx hb dX3_barsHand_50 rfl (lv_at hl 1 rfl) ?_
      refine va_get (D := D) (ci := 3) (v := .ref ha) (C := RX3) (T := TX3) (N := 11) hx hb hts hi_X3_barsHand_3 hown hK.1 hP 0 rfl rfl 7 (by decide) (hts _ hf_X3_barsHand_28) (fun _ h9 => h9) rfl dX3_barsHand_51 ?_
      refine lv_iload_n hx hb dX3_barsHand_54 rfl (lv_at hl 2 rfl) ?_
      refine pw_iald hx hb hK.1 hP 7 0 rfl rfl (by decide) (by omega) dX3_barsHand_55 ?_
      refine pw_top (y := nI j) hA_ ?_
      -- m_thing
      refine pw_cVp (As := [.int (nI i), .int (nI j)]) (rest := []) (wc := [(x, .inr (3, [.ref t, .ref z, .int (nI md), .ref rf, .ref rw, .ref pl, .ref hd, .ref ha, .ref lo, .ref ol, .ref as_])), (t, .inl (cI, 192, .inl (flT T)))]) ⟨hx, hb, hml, hown, hts⟩ (m_thing l D cI cP cR x t z rf rw pl hd ha lo ol as_ md T i j (by omega) (by omega)) (cwV 2 hts gX3_barsHand_X3_thing rfl rfl rfl (by decide +kernel) ⟨Nat.le_of_ble_eq_true rfl, Nat.le_of_ble_eq_true rfl⟩) hK hP hD [0, 1] rfl (by decide) 0 rfl rfl rfl rfl hl.1 rfl (Nat.le_of_ble_eq_true rfl) dX3_barsHand_56 ⟨Nat.zero_le _, Nat.zero_le _⟩ ?_
      refine lv_aload_n hx hb dX3_barsHand_59 rfl (lv_at hl 1 rfl) ?_
      refine va_get (D := D) (ci := 3) (v := .ref hd) (C := RX3) (T := TX3) (N := 11) hx hb hts hi_X3_barsHand_3 hown hK.1 hP 0 rfl rfl 6 (by decide) (hts _ hf_X3_barsHand_25) (fun _ h9 => h9) rfl dX3_barsHand_60 ?_
      refine lv_iload_n hx hb dX3_barsHand_63 rfl (lv_at hl 2 rfl) ?_
      refine pw_iald hx hb hK.1 hP 6 0 rfl rfl (by decide) (by omega) dX3_barsHand_64 ?_
      refine lv_icmp_ne (tgt := 72) hx hb dX3_barsHand_65 (by decide) (fun c_3 => ?_) (fun c_3 => ?_)
      · have _h := c_3
        refine lv_bipush (v := -8) hx hb dX3_barsHand_72 (by decide) ?_
        exact pw_piret hx hb hr (rfl) hlocks dX3_barsHand_74 (rfl)
      · exact absurd c_3 hd_
    · exact absurd c_2 hH
  · exact absurd c_1 hL
set_option maxHeartbeats 4000000 in
set_option maxRecDepth 100000 in
theorem m_bh (l : Launch) (D : va_G) (cI cP cR : ClassId) (x t z rf rw pl hd ha lo ol as_ md : Nat) (T : Nat → Nat → Int32) (Z : Nat → Nat) (RF R P Hd HA Lo Ol AS : Nat → Int32) (p i : Nat) (hp4 : p < 4) (hi : i < 3) (hz : Z i ≤ 60) (hR : R p = nI i) (hO : ¬ Ol p = nI 1) (hL : ¬ Lo p = nI 1) (hH : ¬ Hd p = -1) (j : Nat) (hj : j < Z i) (hA_ : HA p = nI j) (hd_ : T i j = Hd p) : pw_Mp l yX3_barsHand wsX3_barsHand ({ frames := 2, cells := 0, slots := 0, locals := 43 } : Room) D cI cP cR [.ref x, .int (nI p)] ([(x, .inr (3, [.ref t, .ref z, .int (nI md), .ref rf, .ref rw, .ref pl, .ref hd, .ref ha, .ref lo, .ref ol, .ref as_])), (t, .inl (cI, 192, .inl (flT T))), (z, .inl (cI, 3, .inl (zI Z))), (rf, .inl (cI, 4, .inl (RF))), (rw, .inl (cI, 4, .inl (R))), (pl, .inl (cI, 4, .inl (P))), (hd, .inl (cI, 4, .inl (Hd))), (ha, .inl (cI, 4, .inl (HA))), (lo, .inl (cI, 4, .inl (Lo))), (ol, .inl (cI, 4, .inl (Ol))), (as_, .inl (cI, 64, .inl (AS)))]) (.int (nI 0)) := by
  refine pw_ofp (cc := cX3_barsHand) (maxL := 3) (ret := (some .int)) (own := RX3) (by decide +kernel) rfl rfl (Nat.le_of_ble_eq_true rfl) ?_
  intro p_ e_ s m bel meth cd hE hK hP hD ls hl
  obtain ⟨hx, hb, hr, hml, hown, hts, hlocks⟩ := hE
  have hNW := hK.2
  have hl : lv_has ls 3 [(0, .ref x), (1, .int (nI p))] := hl
  have hR1 : ¬ R p = -1 := by rw [hR]; exact pw_nm1 (by omega)
  refine lv_aload_n hx hb dX3_barsHand_0 rfl (lv_at hl 0 rfl) ?_
  refine lv_iload_n hx hb dX3_barsHand_1 rfl (lv_at hl 1 rfl) ?_
  -- m_bars
  refine pw_cVp (As := [.int (nI p)]) (rest := []) (wc := [(x, .inr (3, [.ref t, .ref z, .int (nI md), .ref rf, .ref rw, .ref pl, .ref hd, .ref ha, .ref lo, .ref ol, .ref as_])), (rf, .inl (cI, 4, .inl (RF))), (rw, .inl (cI, 4, .inl (R))), (ol, .inl (cI, 4, .inl (Ol)))]) ⟨hx, hb, hml, hown, hts⟩ (m_bars l D cI cP cR x t z rf rw pl hd ha lo ol as_ md RF R Ol p (by omega) hR1 hO) (cwV 1 hts gX3_barsHand_X3_bars rfl rfl rfl (by decide +kernel) ⟨Nat.le_of_ble_eq_true rfl, Nat.le_of_ble_eq_true rfl⟩) hK hP hD [0, 3, 4, 9] rfl (by decide) 0 rfl rfl rfl rfl hl.1 rfl (Nat.le_of_ble_eq_true rfl) dX3_barsHand_2 ⟨Nat.zero_le _, Nat.zero_le _⟩ ?_
  refine lv_istore_n (lv' := [(2, .int (nI 0)), (0, .ref x), (1, .int (nI p))]) hx hb dX3_barsHand_5 rfl hl (by decide) rfl (fun ls hl => ?_)
  refine lv_iload_n hx hb dX3_barsHand_6 rfl (lv_at hl 0 rfl) ?_
  refine lv_if_ge (tgt := 12) hx hb dX3_barsHand_7 (by decide) (fun c => ?_) (fun c => absurd c (by decide))
  refine lv_aload_n hx hb dX3_barsHand_12 rfl (lv_at hl 1 rfl) ?_
  refine va_get (D := D) (ci := 3) (v := .ref lo) (C := RX3) (T := TX3) (N := 11) hx hb hts hi_X3_barsHand_3 hown hK.1 hP 0 rfl rfl 8 (by decide) (hts _ hf_X3_barsHand_31) (fun _ h9 => h9) rfl dX3_barsHand_13 ?_
  refine lv_iload_n hx hb dX3_barsHand_16 rfl (lv_at hl 2 rfl) ?_
  refine pw_iald hx hb hK.1 hP 8 0 rfl rfl (by decide) (by omega) dX3_barsHand_17 ?_
  refine lv_iconst (v := nI 1) hx hb dX3_barsHand_18 (by decide) ?_
  refine lv_icmp_ne (tgt := 25) hx hb dX3_barsHand_19 (by decide) (fun c_1 => ?_) (fun c_1 => ?_)
  · have _h := c_1
    refine lv_aload_n hx hb dX3_barsHand_25 rfl (lv_at hl 1 rfl) ?_
    refine va_get (D := D) (ci := 3) (v := .ref hd) (C := RX3) (T := TX3) (N := 11) hx hb hts hi_X3_barsHand_3 hown hK.1 hP 0 rfl rfl 6 (by decide) (hts _ hf_X3_barsHand_25) (fun _ h9 => h9) rfl dX3_barsHand_26 ?_
    refine lv_iload_n hx hb dX3_barsHand_29 rfl (lv_at hl 2 rfl) ?_
    refine pw_iald hx hb hK.1 hP 6 0 rfl rfl (by decide) (by omega) dX3_barsHand_30 ?_
    refine lv_iconst (v := -1) hx hb dX3_barsHand_31 (by decide) ?_
    refine lv_icmp_ne (tgt := 43) hx hb dX3_barsHand_32 (by decide) (fun c_2 => ?_) (fun c_2 => ?_)
    · have _h := c_2
      refine lv_aload_n hx hb dX3_barsHand_43 rfl (lv_at hl 1 rfl) ?_
      refine lv_aload_n hx hb dX3_barsHand_44 rfl (lv_at hl 1 rfl) ?_
      refine va_get (D := D) (ci := 3) (v := .ref rw) (C := RX3) (T := TX3) (N := 11) hx hb hts hi_X3_barsHand_3 hown hK.1 hP 0 rfl rfl 4 (by decide) (hts _ hf_X3_barsHand_19) (fun _ h9 => h9) rfl dX3_barsHand_45 ?_
      refine lv_iload_n hx hb dX3_barsHand_48 rfl (lv_at hl 2 rfl) ?_
      refine pw_iald hx hb hK.1 hP 4 0 rfl rfl (by decide) (by omega) dX3_barsHand_49 ?_
      refine pw_top (y := nI i) hR ?_
      refine lv_aload_n hx hb dX3_barsHand_50 rfl (lv_at hl 1 rfl) ?_
      refine va_get (D := D) (ci := 3) (v := .ref ha) (C := RX3) (T := TX3) (N := 11) hx hb hts hi_X3_barsHand_3 hown hK.1 hP 0 rfl rfl 7 (by decide) (hts _ hf_X3_barsHand_28) (fun _ h9 => h9) rfl dX3_barsHand_51 ?_
      refine lv_iload_n hx hb dX3_barsHand_54 rfl (lv_at hl 2 rfl) ?_
      refine pw_iald hx hb hK.1 hP 7 0 rfl rfl (by decide) (by omega) dX3_barsHand_55 ?_
      refine pw_top (y := nI j) hA_ ?_
      -- m_thing
      refine pw_cVp (As := [.int (nI i), .int (nI j)]) (rest := []) (wc := [(x, .inr (3, [.ref t, .ref z, .int (nI md), .ref rf, .ref rw, .ref pl, .ref hd, .ref ha, .ref lo, .ref ol, .ref as_])), (t, .inl (cI, 192, .inl (flT T)))]) ⟨hx, hb, hml, hown, hts⟩ (m_thing l D cI cP cR x t z rf rw pl hd ha lo ol as_ md T i j (by omega) (by omega)) (cwV 2 hts gX3_barsHand_X3_thing rfl rfl rfl (by decide +kernel) ⟨Nat.le_of_ble_eq_true rfl, Nat.le_of_ble_eq_true rfl⟩) hK hP hD [0, 1] rfl (by decide) 0 rfl rfl rfl rfl hl.1 rfl (Nat.le_of_ble_eq_true rfl) dX3_barsHand_56 ⟨Nat.zero_le _, Nat.zero_le _⟩ ?_
      refine lv_aload_n hx hb dX3_barsHand_59 rfl (lv_at hl 1 rfl) ?_
      refine va_get (D := D) (ci := 3) (v := .ref hd) (C := RX3) (T := TX3) (N := 11) hx hb hts hi_X3_barsHand_3 hown hK.1 hP 0 rfl rfl 6 (by decide) (hts _ hf_X3_barsHand_25) (fun _ h9 => h9) rfl dX3_barsHand_60 ?_
      refine lv_iload_n hx hb dX3_barsHand_63 rfl (lv_at hl 2 rfl) ?_
      refine pw_iald hx hb hK.1 hP 6 0 rfl rfl (by decide) (by omega) dX3_barsHand_64 ?_
      refine lv_icmp_ne (tgt := 72) hx hb dX3_barsHand_65 (by decide) (fun c_3 => ?_) (fun c_3 => ?_)
      · exact absurd hd_ c_3
      · have _h := c_3
        refine lv_iconst (v := nI 0) hx hb dX3_barsHand_68 (by decide) ?_
        refine lv_goto (tgt := 74) hx hb dX3_barsHand_69 (by decide) ?_
        exact pw_piret hx hb hr (rfl) hlocks dX3_barsHand_74 (rfl)
    · exact absurd c_2 hH
  · exact absurd c_1 hL
set_option maxHeartbeats 4000000 in
set_option maxRecDepth 100000 in
theorem n_change_x (l : Launch) (D : va_G) (cI cP cR : ClassId) (x t z rf rw pl hd ha lo ol as_ md : Nat) (T : Nat → Nat → Int32) (Z : Nat → Nat) (RF R P Hd HA Lo Ol AS : Nat → Int32) (peg name : Int32) (hbad : ¬ ((0 ≤ peg ∧ peg < nI 4) ∧ (0 ≤ name ∧ name < nI 10))) : pw_Mp l yX3_change wsX3_change ({ frames := 3, cells := 0, slots := 0, locals := 65 } : Room) D cI cP cR [.ref x, .int (peg), .int (name)] ([(x, .inr (3, [.ref t, .ref z, .int (nI md), .ref rf, .ref rw, .ref pl, .ref hd, .ref ha, .ref lo, .ref ol, .ref as_])), (t, .inl (cI, 192, .inl (flT T))), (z, .inl (cI, 3, .inl (zI Z))), (rf, .inl (cI, 4, .inl (RF))), (rw, .inl (cI, 4, .inl (R))), (pl, .inl (cI, 4, .inl (P))), (hd, .inl (cI, 4, .inl (Hd))), (ha, .inl (cI, 4, .inl (HA))), (lo, .inl (cI, 4, .inl (Lo))), (ol, .inl (cI, 4, .inl (Ol))), (as_, .inl (cI, 64, .inl (AS)))]) (.int (-1)) := by
  refine pw_ofp (cc := cX3_change) (maxL := 5) (ret := (some .int)) (own := RX3) (by decide +kernel) rfl rfl (Nat.le_of_ble_eq_true rfl) ?_
  intro p_ e_ s m bel meth cd hE hK hP hD ls hl
  obtain ⟨hx, hb, hr, hml, hown, hts, hlocks⟩ := hE
  have hNW := hK.2
  have hl : lv_has ls 5 [(0, .ref x), (1, .int (peg)), (2, .int (name))] := hl
  by_cases hx_peg : 0 ≤ peg ∧ peg < nI 4
  · obtain ⟨pj_1, hpj_1, rfl⟩ := pw_inP (by decide) hx_peg
    refine lv_iload_n hx hb dX3_change_0 rfl (lv_at hl 1 rfl) ?_
    -- m_isPeg_t
    refine pw_cSp (As := [.int (nI pj_1)]) (rest := []) ⟨hx, hb, hml, hown, hts⟩ (m_isPeg_t l D cI cP cR pj_1 (by omega)) (va_cwS 1 hts gX3_change_X3_isPeg rfl rfl rfl (by decide +kernel) ⟨Nat.le_of_ble_eq_true rfl, Nat.le_of_ble_eq_true rfl⟩) hK rfl hl.1 rfl (Nat.le_of_ble_eq_true rfl) dX3_change_1 ⟨Nat.zero_le _, Nat.zero_le _⟩ ?_
    refine lv_if_eq (tgt := 14) hx hb dX3_change_4 (by decide) (fun c => absurd c (by decide)) (fun c => ?_)
    refine lv_iload_n hx hb dX3_change_7 rfl (lv_at hl 2 rfl) ?_
    -- m_isName_f
    refine pw_cSp (As := [.int (name)]) (rest := []) ⟨hx, hb, hml, hown, hts⟩ (m_isName_f l D cI cP cR name (fun h => hbad ⟨hx_peg, h⟩)) (va_cwS 1 hts gX3_change_X3_isName rfl rfl rfl (by decide +kernel) ⟨Nat.le_of_ble_eq_true rfl, Nat.le_of_ble_eq_true rfl⟩) hK rfl hl.1 rfl (Nat.le_of_ble_eq_true rfl) dX3_change_8 ⟨Nat.zero_le _, Nat.zero_le _⟩ ?_
    refine lv_if_ne (tgt := 16) hx hb dX3_change_11 (by decide) (fun c => absurd c (by decide)) (fun c => ?_)
    refine lv_iconst (v := -1) hx hb dX3_change_14 (by decide) ?_
    exact pw_piret hx hb hr (rfl) hlocks dX3_change_15 (rfl)
  · have _h := hx_peg
    refine lv_iload_n hx hb dX3_change_0 rfl (lv_at hl 1 rfl) ?_
    -- m_isPeg_f
    refine pw_cSp (As := [.int (peg)]) (rest := []) ⟨hx, hb, hml, hown, hts⟩ (m_isPeg_f l D cI cP cR peg hx_peg) (va_cwS 1 hts gX3_change_X3_isPeg rfl rfl rfl (by decide +kernel) ⟨Nat.le_of_ble_eq_true rfl, Nat.le_of_ble_eq_true rfl⟩) hK rfl hl.1 rfl (Nat.le_of_ble_eq_true rfl) dX3_change_1 ⟨Nat.zero_le _, Nat.zero_le _⟩ ?_
    refine lv_if_eq (tgt := 14) hx hb dX3_change_4 (by decide) (fun c => ?_) (fun c => absurd c (by decide))
    refine lv_iconst (v := -1) hx hb dX3_change_14 (by decide) ?_
    exact pw_piret hx hb hr (rfl) hlocks dX3_change_15 (rfl)
set_option maxHeartbeats 4000000 in
set_option maxRecDepth 100000 in
theorem n_add_x (l : Launch) (D : va_G) (cI cP cR : ClassId) (x t z rf rw pl hd ha lo ol as_ md : Nat) (T : Nat → Nat → Int32) (Z : Nat → Nat) (RF R P Hd HA Lo Ol AS : Nat → Int32) (peg name : Int32) (hbad : ¬ ((0 ≤ peg ∧ peg < nI 4) ∧ (0 ≤ name ∧ name < nI 10))) : pw_Mp l yX3_add wsX3_add ({ frames := 2, cells := 0, slots := 0, locals := 46 } : Room) D cI cP cR [.ref x, .int (peg), .int (name)] ([(x, .inr (3, [.ref t, .ref z, .int (nI md), .ref rf, .ref rw, .ref pl, .ref hd, .ref ha, .ref lo, .ref ol, .ref as_])), (t, .inl (cI, 192, .inl (flT T))), (z, .inl (cI, 3, .inl (zI Z))), (rf, .inl (cI, 4, .inl (RF))), (rw, .inl (cI, 4, .inl (R))), (pl, .inl (cI, 4, .inl (P))), (hd, .inl (cI, 4, .inl (Hd))), (ha, .inl (cI, 4, .inl (HA))), (lo, .inl (cI, 4, .inl (Lo))), (ol, .inl (cI, 4, .inl (Ol))), (as_, .inl (cI, 64, .inl (AS)))]) (.int (-1)) := by
  refine pw_ofp (cc := cX3_add) (maxL := 5) (ret := (some .int)) (own := RX3) (by decide +kernel) rfl rfl (Nat.le_of_ble_eq_true rfl) ?_
  intro p_ e_ s m bel meth cd hE hK hP hD ls hl
  obtain ⟨hx, hb, hr, hml, hown, hts, hlocks⟩ := hE
  have hNW := hK.2
  have hl : lv_has ls 5 [(0, .ref x), (1, .int (peg)), (2, .int (name))] := hl
  by_cases hx_peg : 0 ≤ peg ∧ peg < nI 4
  · obtain ⟨pj_1, hpj_1, rfl⟩ := pw_inP (by decide) hx_peg
    refine lv_iload_n hx hb dX3_add_0 rfl (lv_at hl 1 rfl) ?_
    -- m_isPeg_t
    refine pw_cSp (As := [.int (nI pj_1)]) (rest := []) ⟨hx, hb, hml, hown, hts⟩ (m_isPeg_t l D cI cP cR pj_1 (by omega)) (va_cwS 1 hts gX3_add_X3_isPeg rfl rfl rfl (by decide +kernel) ⟨Nat.le_of_ble_eq_true rfl, Nat.le_of_ble_eq_true rfl⟩) hK rfl hl.1 rfl (Nat.le_of_ble_eq_true rfl) dX3_add_1 ⟨Nat.zero_le _, Nat.zero_le _⟩ ?_
    refine lv_if_eq (tgt := 14) hx hb dX3_add_4 (by decide) (fun c => absurd c (by decide)) (fun c => ?_)
    refine lv_iload_n hx hb dX3_add_7 rfl (lv_at hl 2 rfl) ?_
    -- m_isName_f
    refine pw_cSp (As := [.int (name)]) (rest := []) ⟨hx, hb, hml, hown, hts⟩ (m_isName_f l D cI cP cR name (fun h => hbad ⟨hx_peg, h⟩)) (va_cwS 1 hts gX3_add_X3_isName rfl rfl rfl (by decide +kernel) ⟨Nat.le_of_ble_eq_true rfl, Nat.le_of_ble_eq_true rfl⟩) hK rfl hl.1 rfl (Nat.le_of_ble_eq_true rfl) dX3_add_8 ⟨Nat.zero_le _, Nat.zero_le _⟩ ?_
    refine lv_if_ne (tgt := 16) hx hb dX3_add_11 (by decide) (fun c => absurd c (by decide)) (fun c => ?_)
    refine lv_iconst (v := -1) hx hb dX3_add_14 (by decide) ?_
    exact pw_piret hx hb hr (rfl) hlocks dX3_add_15 (rfl)
  · have _h := hx_peg
    refine lv_iload_n hx hb dX3_add_0 rfl (lv_at hl 1 rfl) ?_
    -- m_isPeg_f
    refine pw_cSp (As := [.int (peg)]) (rest := []) ⟨hx, hb, hml, hown, hts⟩ (m_isPeg_f l D cI cP cR peg hx_peg) (va_cwS 1 hts gX3_add_X3_isPeg rfl rfl rfl (by decide +kernel) ⟨Nat.le_of_ble_eq_true rfl, Nat.le_of_ble_eq_true rfl⟩) hK rfl hl.1 rfl (Nat.le_of_ble_eq_true rfl) dX3_add_1 ⟨Nat.zero_le _, Nat.zero_le _⟩ ?_
    refine lv_if_eq (tgt := 14) hx hb dX3_add_4 (by decide) (fun c => ?_) (fun c => absurd c (by decide))
    refine lv_iconst (v := -1) hx hb dX3_add_14 (by decide) ?_
    exact pw_piret hx hb hr (rfl) hlocks dX3_add_15 (rfl)
set_option maxHeartbeats 4000000 in
set_option maxRecDepth 100000 in
theorem n_remove_x (l : Launch) (D : va_G) (cI cP cR : ClassId) (x t z rf rw pl hd ha lo ol as_ md : Nat) (T : Nat → Nat → Int32) (Z : Nat → Nat) (RF R P Hd HA Lo Ol AS : Nat → Int32) (peg : Int32) (hx_peg : ¬ (0 ≤ peg ∧ peg < nI 4)) : pw_Mp l yX3_remove wsX3_remove ({ frames := 3, cells := 0, slots := 0, locals := 65 } : Room) D cI cP cR [.ref x, .int (peg)] ([(x, .inr (3, [.ref t, .ref z, .int (nI md), .ref rf, .ref rw, .ref pl, .ref hd, .ref ha, .ref lo, .ref ol, .ref as_])), (t, .inl (cI, 192, .inl (flT T))), (z, .inl (cI, 3, .inl (zI Z))), (rf, .inl (cI, 4, .inl (RF))), (rw, .inl (cI, 4, .inl (R))), (pl, .inl (cI, 4, .inl (P))), (hd, .inl (cI, 4, .inl (Hd))), (ha, .inl (cI, 4, .inl (HA))), (lo, .inl (cI, 4, .inl (Lo))), (ol, .inl (cI, 4, .inl (Ol))), (as_, .inl (cI, 64, .inl (AS)))]) (.int (-1)) := by
  refine pw_ofp (cc := cX3_remove) (maxL := 4) (ret := (some .int)) (own := RX3) (by decide +kernel) rfl rfl (Nat.le_of_ble_eq_true rfl) ?_
  intro p_ e_ s m bel meth cd hE hK hP hD ls hl
  obtain ⟨hx, hb, hr, hml, hown, hts, hlocks⟩ := hE
  have hNW := hK.2
  have hl : lv_has ls 4 [(0, .ref x), (1, .int (peg))] := hl
  refine lv_iload_n hx hb dX3_remove_0 rfl (lv_at hl 1 rfl) ?_
  -- m_isPeg_f
  refine pw_cSp (As := [.int (peg)]) (rest := []) ⟨hx, hb, hml, hown, hts⟩ (m_isPeg_f l D cI cP cR peg hx_peg) (va_cwS 1 hts gX3_remove_X3_isPeg rfl rfl rfl (by decide +kernel) ⟨Nat.le_of_ble_eq_true rfl, Nat.le_of_ble_eq_true rfl⟩) hK rfl hl.1 rfl (Nat.le_of_ble_eq_true rfl) dX3_remove_1 ⟨Nat.zero_le _, Nat.zero_le _⟩ ?_
  refine lv_if_ne (tgt := 9) hx hb dX3_remove_4 (by decide) (fun c => absurd c (by decide)) (fun c => ?_)
  refine lv_iconst (v := -1) hx hb dX3_remove_7 (by decide) ?_
  exact pw_piret hx hb hr (rfl) hlocks dX3_remove_8 (rfl)
set_option maxHeartbeats 4000000 in
set_option maxRecDepth 100000 in
theorem n_change_n (l : Launch) (D : va_G) (cI cP cR : ClassId) (x t z rf rw pl hd ha lo ol as_ md : Nat) (T : Nat → Nat → Int32) (Z : Nat → Nat) (RF R P Hd HA Lo Ol AS : Nat → Int32) (p : Nat) (hp4 : p < 4) (hR : R p = -1) (nm : Nat) (hnm : nm < 10) : pw_Mp l yX3_change wsX3_change ({ frames := 3, cells := 0, slots := 0, locals := 65 } : Room) D cI cP cR [.ref x, .int (nI p), .int (nI nm)] ([(x, .inr (3, [.ref t, .ref z, .int (nI md), .ref rf, .ref rw, .ref pl, .ref hd, .ref ha, .ref lo, .ref ol, .ref as_])), (t, .inl (cI, 192, .inl (flT T))), (z, .inl (cI, 3, .inl (zI Z))), (rf, .inl (cI, 4, .inl (RF))), (rw, .inl (cI, 4, .inl (R))), (pl, .inl (cI, 4, .inl (P))), (hd, .inl (cI, 4, .inl (Hd))), (ha, .inl (cI, 4, .inl (HA))), (lo, .inl (cI, 4, .inl (Lo))), (ol, .inl (cI, 4, .inl (Ol))), (as_, .inl (cI, 64, .inl (AS)))]) (.int (-2)) := by
  refine pw_ofp (cc := cX3_change) (maxL := 5) (ret := (some .int)) (own := RX3) (by decide +kernel) rfl rfl (Nat.le_of_ble_eq_true rfl) ?_
  intro p_ e_ s m bel meth cd hE hK hP hD ls hl
  obtain ⟨hx, hb, hr, hml, hown, hts, hlocks⟩ := hE
  have hNW := hK.2
  have hl : lv_has ls 5 [(0, .ref x), (1, .int (nI p)), (2, .int (nI nm))] := hl
  refine lv_iload_n hx hb dX3_change_0 rfl (lv_at hl 1 rfl) ?_
  -- m_isPeg_t
  refine pw_cSp (As := [.int (nI p)]) (rest := []) ⟨hx, hb, hml, hown, hts⟩ (m_isPeg_t l D cI cP cR p (by omega)) (va_cwS 1 hts gX3_change_X3_isPeg rfl rfl rfl (by decide +kernel) ⟨Nat.le_of_ble_eq_true rfl, Nat.le_of_ble_eq_true rfl⟩) hK rfl hl.1 rfl (Nat.le_of_ble_eq_true rfl) dX3_change_1 ⟨Nat.zero_le _, Nat.zero_le _⟩ ?_
  refine lv_if_eq (tgt := 14) hx hb dX3_change_4 (by decide) (fun c => absurd c (by decide)) (fun c => ?_)
  refine lv_iload_n hx hb dX3_change_7 rfl (lv_at hl 2 rfl) ?_
  -- m_isName_t
  refine pw_cSp (As := [.int (nI nm)]) (rest := []) ⟨hx, hb, hml, hown, hts⟩ (m_isName_t l D cI cP cR nm (by omega)) (va_cwS 1 hts gX3_change_X3_isName rfl rfl rfl (by decide +kernel) ⟨Nat.le_of_ble_eq_true rfl, Nat.le_of_ble_eq_true rfl⟩) hK rfl hl.1 rfl (Nat.le_of_ble_eq_true rfl) dX3_change_8 ⟨Nat.zero_le _, Nat.zero_le _⟩ ?_
  refine lv_if_ne (tgt := 16) hx hb dX3_change_11 (by decide) (fun c => ?_) (fun c => absurd c (by decide))
  refine lv_aload_n hx hb dX3_change_16 rfl (lv_at hl 0 rfl) ?_
  refine lv_iload_n hx hb dX3_change_17 rfl (lv_at hl 1 rfl) ?_
  -- m_bh_n
  refine pw_cVp (As := [.int (nI p)]) (rest := []) (wc := [(x, .inr (3, [.ref t, .ref z, .int (nI md), .ref rf, .ref rw, .ref pl, .ref hd, .ref ha, .ref lo, .ref ol, .ref as_])), (t, .inl (cI, 192, .inl (flT T))), (z, .inl (cI, 3, .inl (zI Z))), (rf, .inl (cI, 4, .inl (RF))), (rw, .inl (cI, 4, .inl (R))), (pl, .inl (cI, 4, .inl (P))), (hd, .inl (cI, 4, .inl (Hd))), (ha, .inl (cI, 4, .inl (HA))), (lo, .inl (cI, 4, .inl (Lo))), (ol, .inl (cI, 4, .inl (Ol))), (as_, .inl (cI, 64, .inl (AS)))]) ⟨hx, hb, hml, hown, hts⟩ (m_bh_n l D cI cP cR x t z rf rw pl hd ha lo ol as_ md T Z RF R P Hd HA Lo Ol AS p (by omega) hR) (cwV 1 hts gX3_change_X3_barsHand rfl rfl rfl (by decide +kernel) ⟨Nat.le_of_ble_eq_true rfl, Nat.le_of_ble_eq_true rfl⟩) hK hP hD [0, 1, 2, 3, 4, 5, 6, 7, 8, 9, 10] rfl (by decide) 0 rfl rfl rfl rfl hl.1 rfl (Nat.le_of_ble_eq_true rfl) dX3_change_18 ⟨Nat.zero_le _, Nat.zero_le _⟩ ?_
  refine lv_istore_n (lv' := [(3, .int (-2)), (0, .ref x), (1, .int (nI p)), (2, .int (nI nm))]) hx hb dX3_change_21 rfl hl (by decide) rfl (fun ls hl => ?_)
  refine lv_iload_n hx hb dX3_change_22 rfl (lv_at hl 0 rfl) ?_
  refine lv_if_ge (tgt := 28) hx hb dX3_change_23 (by decide) (fun c => absurd c (by decide)) (fun c => ?_)
  refine lv_iload_n hx hb dX3_change_26 rfl (lv_at hl 0 rfl) ?_
  exact pw_piret hx hb hr (rfl) hlocks dX3_change_27 (rfl)
set_option maxHeartbeats 4000000 in
set_option maxRecDepth 100000 in
theorem n_change_o (l : Launch) (D : va_G) (cI cP cR : ClassId) (x t z rf rw pl hd ha lo ol as_ md : Nat) (T : Nat → Nat → Int32) (Z : Nat → Nat) (RF R P Hd HA Lo Ol AS : Nat → Int32) (p : Nat) (hp4 : p < 4) (hR1 : ¬ R p = -1) (hO : Ol p = nI 1) (nm : Nat) (hnm : nm < 10) : pw_Mm l yX3_change wsX3_change ({ frames := 3, cells := 0, slots := 0, locals := 65 } : Room) D cI cP cR [.ref x, .int (nI p), .int (nI nm)] ([(x, .inr (3, [.ref t, .ref z, .int (nI md), .ref rf, .ref rw, .ref pl, .ref hd, .ref ha, .ref lo, .ref ol, .ref as_])), (t, .inl (cI, 192, .inl (flT T))), (z, .inl (cI, 3, .inl (zI Z))), (rf, .inl (cI, 4, .inl (RF))), (rw, .inl (cI, 4, .inl (R))), (pl, .inl (cI, 4, .inl (P))), (hd, .inl (cI, 4, .inl (Hd))), (ha, .inl (cI, 4, .inl (HA))), (lo, .inl (cI, 4, .inl (Lo))), (ol, .inl (cI, 4, .inl (Ol))), (as_, .inl (cI, 64, .inl (AS)))]) (fun v w => v = some (.int (-4)) ∧ w = [(x, .inr (3, [.ref t, .ref z, .int (nI md), .ref rf, .ref rw, .ref pl, .ref hd, .ref ha, .ref lo, .ref ol, .ref as_])), (t, .inl (cI, 192, .inl (flT T))), (z, .inl (cI, 3, .inl (zI Z))), (rf, .inl (cI, 4, .inl (upd RF 3 (RF 3 + nI 1)))), (rw, .inl (cI, 4, .inl (R))), (pl, .inl (cI, 4, .inl (P))), (hd, .inl (cI, 4, .inl (Hd))), (ha, .inl (cI, 4, .inl (HA))), (lo, .inl (cI, 4, .inl (Lo))), (ol, .inl (cI, 4, .inl (Ol))), (as_, .inl (cI, 64, .inl (AS)))]) := by
  refine pw_ofm (cc := cX3_change) (maxL := 5) (ret := (some .int)) (own := RX3) (by decide +kernel) rfl rfl (Nat.le_of_ble_eq_true rfl) ?_
  intro p_ e_ s m bel meth cd A hE hK hP hD hA hS ls hl
  obtain ⟨hx, hb, hr, hml, hown, hts, hlocks⟩ := hE
  have hNW := hK.2
  have hl : lv_has ls 5 [(0, .ref x), (1, .int (nI p)), (2, .int (nI nm))] := hl
  refine lv_iload_n hx hb dX3_change_0 rfl (lv_at hl 1 rfl) ?_
  -- m_isPeg_t
  refine pw_cSp (As := [.int (nI p)]) (rest := []) ⟨hx, hb, hml, hown, hts⟩ (m_isPeg_t l D cI cP cR p (by omega)) (va_cwS 1 hts gX3_change_X3_isPeg rfl rfl rfl (by decide +kernel) ⟨Nat.le_of_ble_eq_true rfl, Nat.le_of_ble_eq_true rfl⟩) hK rfl hl.1 rfl (Nat.le_of_ble_eq_true rfl) dX3_change_1 ⟨Nat.zero_le _, Nat.zero_le _⟩ ?_
  refine lv_if_eq (tgt := 14) hx hb dX3_change_4 (by decide) (fun c => absurd c (by decide)) (fun c => ?_)
  refine lv_iload_n hx hb dX3_change_7 rfl (lv_at hl 2 rfl) ?_
  -- m_isName_t
  refine pw_cSp (As := [.int (nI nm)]) (rest := []) ⟨hx, hb, hml, hown, hts⟩ (m_isName_t l D cI cP cR nm (by omega)) (va_cwS 1 hts gX3_change_X3_isName rfl rfl rfl (by decide +kernel) ⟨Nat.le_of_ble_eq_true rfl, Nat.le_of_ble_eq_true rfl⟩) hK rfl hl.1 rfl (Nat.le_of_ble_eq_true rfl) dX3_change_8 ⟨Nat.zero_le _, Nat.zero_le _⟩ ?_
  refine lv_if_ne (tgt := 16) hx hb dX3_change_11 (by decide) (fun c => ?_) (fun c => absurd c (by decide))
  refine lv_aload_n hx hb dX3_change_16 rfl (lv_at hl 0 rfl) ?_
  refine lv_iload_n hx hb dX3_change_17 rfl (lv_at hl 1 rfl) ?_
  -- m_bh_o
  refine pw_cVm (As := [.int (nI p)]) (rest := []) (wc := [(x, .inr (3, [.ref t, .ref z, .int (nI md), .ref rf, .ref rw, .ref pl, .ref hd, .ref ha, .ref lo, .ref ol, .ref as_])), (t, .inl (cI, 192, .inl (flT T))), (z, .inl (cI, 3, .inl (zI Z))), (rf, .inl (cI, 4, .inl (RF))), (rw, .inl (cI, 4, .inl (R))), (pl, .inl (cI, 4, .inl (P))), (hd, .inl (cI, 4, .inl (Hd))), (ha, .inl (cI, 4, .inl (HA))), (lo, .inl (cI, 4, .inl (Lo))), (ol, .inl (cI, 4, .inl (Ol))), (as_, .inl (cI, 64, .inl (AS)))]) (wr := []) ⟨hx, hb, hml, hown, hts⟩ (m_bh_o l D cI cP cR x t z rf rw pl hd ha lo ol as_ md T Z RF R P Hd HA Lo Ol AS p (by omega) hR1 hO) (cwV 1 hts gX3_change_X3_barsHand rfl rfl rfl (by decide +kernel) ⟨Nat.le_of_ble_eq_true rfl, Nat.le_of_ble_eq_true rfl⟩) hK hP hD hS hA [0, 1, 2, 3, 4, 5, 6, 7, 8, 9, 10] [] rfl rfl (by decide) (by decide) (by decide) 0 rfl rfl rfl rfl hl.1 rfl (Nat.le_of_ble_eq_true rfl) dX3_change_18 ⟨Nat.zero_le _, Nat.zero_le _⟩ (fun v1 w1 H locs hq hP hD hS => ?_)
  rcases hq with ⟨rfl, rfl⟩
  have hP : va_P D vwCl ([(x, .inr (3, [.ref t, .ref z, .int (nI md), .ref rf, .ref rw, .ref pl, .ref hd, .ref ha, .ref lo, .ref ol, .ref as_])), (t, .inl (cI, 192, .inl (flT T))), (z, .inl (cI, 3, .inl (zI Z))), (rf, .inl (cI, 4, .inl (upd RF 3 (RF 3 + nI 1)))), (rw, .inl (cI, 4, .inl (R))), (pl, .inl (cI, 4, .inl (P))), (hd, .inl (cI, 4, .inl (Hd))), (ha, .inl (cI, 4, .inl (HA))), (lo, .inl (cI, 4, .inl (Lo))), (ol, .inl (cI, 4, .inl (Ol))), (as_, .inl (cI, 64, .inl (AS)))]) H := hP
  have hD : va_D A ([(x, .inr (3, [.ref t, .ref z, .int (nI md), .ref rf, .ref rw, .ref pl, .ref hd, .ref ha, .ref lo, .ref ol, .ref as_])), (t, .inl (cI, 192, .inl (flT T))), (z, .inl (cI, 3, .inl (zI Z))), (rf, .inl (cI, 4, .inl (upd RF 3 (RF 3 + nI 1)))), (rw, .inl (cI, 4, .inl (R))), (pl, .inl (cI, 4, .inl (P))), (hd, .inl (cI, 4, .inl (Hd))), (ha, .inl (cI, 4, .inl (HA))), (lo, .inl (cI, 4, .inl (Lo))), (ol, .inl (cI, 4, .inl (Ol))), (as_, .inl (cI, 64, .inl (AS)))]) := hD
  refine W.eq (g2 := F0 m 21 ls [.int (-4)]) rfl ?_
  refine lv_istore_n (lv' := [(3, .int (-4)), (0, .ref x), (1, .int (nI p)), (2, .int (nI nm))]) hx hb dX3_change_21 rfl hl (by decide) rfl (fun ls hl => ?_)
  refine lv_iload_n hx hb dX3_change_22 rfl (lv_at hl 0 rfl) ?_
  refine lv_if_ge (tgt := 28) hx hb dX3_change_23 (by decide) (fun c => absurd c (by decide)) (fun c => ?_)
  refine lv_iload_n hx hb dX3_change_26 rfl (lv_at hl 0 rfl) ?_
  have hP := hP.sub (ws' := [(x, .inr (3, [.ref t, .ref z, .int (nI md), .ref rf, .ref rw, .ref pl, .ref hd, .ref ha, .ref lo, .ref ol, .ref as_])), (t, .inl (cI, 192, .inl (flT T))), (z, .inl (cI, 3, .inl (zI Z))), (rf, .inl (cI, 4, .inl (upd RF 3 (RF 3 + nI 1)))), (rw, .inl (cI, 4, .inl (R))), (pl, .inl (cI, 4, .inl (P))), (hd, .inl (cI, 4, .inl (Hd))), (ha, .inl (cI, 4, .inl (HA))), (lo, .inl (cI, 4, .inl (Lo))), (ol, .inl (cI, 4, .inl (Ol))), (as_, .inl (cI, 64, .inl (AS)))]) [0, 1, 2, 3, 4, 5, 6, 7, 8, 9, 10] rfl
  have hD := hD.sub (ws' := [(x, .inr (3, [.ref t, .ref z, .int (nI md), .ref rf, .ref rw, .ref pl, .ref hd, .ref ha, .ref lo, .ref ol, .ref as_])), (t, .inl (cI, 192, .inl (flT T))), (z, .inl (cI, 3, .inl (zI Z))), (rf, .inl (cI, 4, .inl (upd RF 3 (RF 3 + nI 1)))), (rw, .inl (cI, 4, .inl (R))), (pl, .inl (cI, 4, .inl (P))), (hd, .inl (cI, 4, .inl (Hd))), (ha, .inl (cI, 4, .inl (HA))), (lo, .inl (cI, 4, .inl (Lo))), (ol, .inl (cI, 4, .inl (Ol))), (as_, .inl (cI, 64, .inl (AS)))]) [0, 1, 2, 3, 4, 5, 6, 7, 8, 9, 10] (by decide) rfl
  exact pw_iret hx hb hr (rfl) hlocks dX3_change_27 hS hP hD (⟨rfl, rfl⟩)
set_option maxHeartbeats 4000000 in
set_option maxRecDepth 100000 in
theorem n_change_m (l : Launch) (D : va_G) (cI cP cR : ClassId) (x t z rf rw pl hd ha lo ol as_ md : Nat) (T : Nat → Nat → Int32) (Z : Nat → Nat) (RF R P Hd HA Lo Ol AS : Nat → Int32) (p : Nat) (hp4 : p < 4) (hR1 : ¬ R p = -1) (hO : ¬ Ol p = nI 1) (hL : Lo p = nI 1) (nm : Nat) (hnm : nm < 10) : pw_Mp l yX3_change wsX3_change ({ frames := 3, cells := 0, slots := 0, locals := 65 } : Room) D cI cP cR [.ref x, .int (nI p), .int (nI nm)] ([(x, .inr (3, [.ref t, .ref z, .int (nI md), .ref rf, .ref rw, .ref pl, .ref hd, .ref ha, .ref lo, .ref ol, .ref as_])), (t, .inl (cI, 192, .inl (flT T))), (z, .inl (cI, 3, .inl (zI Z))), (rf, .inl (cI, 4, .inl (RF))), (rw, .inl (cI, 4, .inl (R))), (pl, .inl (cI, 4, .inl (P))), (hd, .inl (cI, 4, .inl (Hd))), (ha, .inl (cI, 4, .inl (HA))), (lo, .inl (cI, 4, .inl (Lo))), (ol, .inl (cI, 4, .inl (Ol))), (as_, .inl (cI, 64, .inl (AS)))]) (.int (-8)) := by
  refine pw_ofp (cc := cX3_change) (maxL := 5) (ret := (some .int)) (own := RX3) (by decide +kernel) rfl rfl (Nat.le_of_ble_eq_true rfl) ?_
  intro p_ e_ s m bel meth cd hE hK hP hD ls hl
  obtain ⟨hx, hb, hr, hml, hown, hts, hlocks⟩ := hE
  have hNW := hK.2
  have hl : lv_has ls 5 [(0, .ref x), (1, .int (nI p)), (2, .int (nI nm))] := hl
  refine lv_iload_n hx hb dX3_change_0 rfl (lv_at hl 1 rfl) ?_
  -- m_isPeg_t
  refine pw_cSp (As := [.int (nI p)]) (rest := []) ⟨hx, hb, hml, hown, hts⟩ (m_isPeg_t l D cI cP cR p (by omega)) (va_cwS 1 hts gX3_change_X3_isPeg rfl rfl rfl (by decide +kernel) ⟨Nat.le_of_ble_eq_true rfl, Nat.le_of_ble_eq_true rfl⟩) hK rfl hl.1 rfl (Nat.le_of_ble_eq_true rfl) dX3_change_1 ⟨Nat.zero_le _, Nat.zero_le _⟩ ?_
  refine lv_if_eq (tgt := 14) hx hb dX3_change_4 (by decide) (fun c => absurd c (by decide)) (fun c => ?_)
  refine lv_iload_n hx hb dX3_change_7 rfl (lv_at hl 2 rfl) ?_
  -- m_isName_t
  refine pw_cSp (As := [.int (nI nm)]) (rest := []) ⟨hx, hb, hml, hown, hts⟩ (m_isName_t l D cI cP cR nm (by omega)) (va_cwS 1 hts gX3_change_X3_isName rfl rfl rfl (by decide +kernel) ⟨Nat.le_of_ble_eq_true rfl, Nat.le_of_ble_eq_true rfl⟩) hK rfl hl.1 rfl (Nat.le_of_ble_eq_true rfl) dX3_change_8 ⟨Nat.zero_le _, Nat.zero_le _⟩ ?_
  refine lv_if_ne (tgt := 16) hx hb dX3_change_11 (by decide) (fun c => ?_) (fun c => absurd c (by decide))
  refine lv_aload_n hx hb dX3_change_16 rfl (lv_at hl 0 rfl) ?_
  refine lv_iload_n hx hb dX3_change_17 rfl (lv_at hl 1 rfl) ?_
  -- m_bh_m
  refine pw_cVp (As := [.int (nI p)]) (rest := []) (wc := [(x, .inr (3, [.ref t, .ref z, .int (nI md), .ref rf, .ref rw, .ref pl, .ref hd, .ref ha, .ref lo, .ref ol, .ref as_])), (t, .inl (cI, 192, .inl (flT T))), (z, .inl (cI, 3, .inl (zI Z))), (rf, .inl (cI, 4, .inl (RF))), (rw, .inl (cI, 4, .inl (R))), (pl, .inl (cI, 4, .inl (P))), (hd, .inl (cI, 4, .inl (Hd))), (ha, .inl (cI, 4, .inl (HA))), (lo, .inl (cI, 4, .inl (Lo))), (ol, .inl (cI, 4, .inl (Ol))), (as_, .inl (cI, 64, .inl (AS)))]) ⟨hx, hb, hml, hown, hts⟩ (m_bh_m l D cI cP cR x t z rf rw pl hd ha lo ol as_ md T Z RF R P Hd HA Lo Ol AS p (by omega) hR1 hO hL) (cwV 1 hts gX3_change_X3_barsHand rfl rfl rfl (by decide +kernel) ⟨Nat.le_of_ble_eq_true rfl, Nat.le_of_ble_eq_true rfl⟩) hK hP hD [0, 1, 2, 3, 4, 5, 6, 7, 8, 9, 10] rfl (by decide) 0 rfl rfl rfl rfl hl.1 rfl (Nat.le_of_ble_eq_true rfl) dX3_change_18 ⟨Nat.zero_le _, Nat.zero_le _⟩ ?_
  refine lv_istore_n (lv' := [(3, .int (-8)), (0, .ref x), (1, .int (nI p)), (2, .int (nI nm))]) hx hb dX3_change_21 rfl hl (by decide) rfl (fun ls hl => ?_)
  refine lv_iload_n hx hb dX3_change_22 rfl (lv_at hl 0 rfl) ?_
  refine lv_if_ge (tgt := 28) hx hb dX3_change_23 (by decide) (fun c => absurd c (by decide)) (fun c => ?_)
  refine lv_iload_n hx hb dX3_change_26 rfl (lv_at hl 0 rfl) ?_
  exact pw_piret hx hb hr (rfl) hlocks dX3_change_27 (rfl)
set_option maxHeartbeats 4000000 in
set_option maxRecDepth 100000 in
theorem n_change_s (l : Launch) (D : va_G) (cI cP cR : ClassId) (x t z rf rw pl hd ha lo ol as_ md : Nat) (T : Nat → Nat → Int32) (Z : Nat → Nat) (RF R P Hd HA Lo Ol AS : Nat → Int32) (p : Nat) (hp4 : p < 4) (hR1 : ¬ R p = -1) (hO : ¬ Ol p = nI 1) (hL : ¬ Lo p = nI 1) (hH : Hd p = -1) (nm : Nat) (hnm : nm < 10) : pw_Mm l yX3_change wsX3_change ({ frames := 3, cells := 0, slots := 0, locals := 65 } : Room) D cI cP cR [.ref x, .int (nI p), .int (nI nm)] ([(x, .inr (3, [.ref t, .ref z, .int (nI md), .ref rf, .ref rw, .ref pl, .ref hd, .ref ha, .ref lo, .ref ol, .ref as_])), (t, .inl (cI, 192, .inl (flT T))), (z, .inl (cI, 3, .inl (zI Z))), (rf, .inl (cI, 4, .inl (RF))), (rw, .inl (cI, 4, .inl (R))), (pl, .inl (cI, 4, .inl (P))), (hd, .inl (cI, 4, .inl (Hd))), (ha, .inl (cI, 4, .inl (HA))), (lo, .inl (cI, 4, .inl (Lo))), (ol, .inl (cI, 4, .inl (Ol))), (as_, .inl (cI, 64, .inl (AS)))]) (fun v w => v = some (.int (-7)) ∧ w = [(x, .inr (3, [.ref t, .ref z, .int (nI md), .ref rf, .ref rw, .ref pl, .ref hd, .ref ha, .ref lo, .ref ol, .ref as_])), (t, .inl (cI, 192, .inl (flT T))), (z, .inl (cI, 3, .inl (zI Z))), (rf, .inl (cI, 4, .inl (upd RF 2 (RF 2 + nI 1)))), (rw, .inl (cI, 4, .inl (R))), (pl, .inl (cI, 4, .inl (P))), (hd, .inl (cI, 4, .inl (Hd))), (ha, .inl (cI, 4, .inl (HA))), (lo, .inl (cI, 4, .inl (Lo))), (ol, .inl (cI, 4, .inl (Ol))), (as_, .inl (cI, 64, .inl (AS)))]) := by
  refine pw_ofm (cc := cX3_change) (maxL := 5) (ret := (some .int)) (own := RX3) (by decide +kernel) rfl rfl (Nat.le_of_ble_eq_true rfl) ?_
  intro p_ e_ s m bel meth cd A hE hK hP hD hA hS ls hl
  obtain ⟨hx, hb, hr, hml, hown, hts, hlocks⟩ := hE
  have hNW := hK.2
  have hl : lv_has ls 5 [(0, .ref x), (1, .int (nI p)), (2, .int (nI nm))] := hl
  refine lv_iload_n hx hb dX3_change_0 rfl (lv_at hl 1 rfl) ?_
  -- m_isPeg_t
  refine pw_cSp (As := [.int (nI p)]) (rest := []) ⟨hx, hb, hml, hown, hts⟩ (m_isPeg_t l D cI cP cR p (by omega)) (va_cwS 1 hts gX3_change_X3_isPeg rfl rfl rfl (by decide +kernel) ⟨Nat.le_of_ble_eq_true rfl, Nat.le_of_ble_eq_true rfl⟩) hK rfl hl.1 rfl (Nat.le_of_ble_eq_true rfl) dX3_change_1 ⟨Nat.zero_le _, Nat.zero_le _⟩ ?_
  refine lv_if_eq (tgt := 14) hx hb dX3_change_4 (by decide) (fun c => absurd c (by decide)) (fun c => ?_)
  refine lv_iload_n hx hb dX3_change_7 rfl (lv_at hl 2 rfl) ?_
  -- m_isName_t
  refine pw_cSp (As := [.int (nI nm)]) (rest := []) ⟨hx, hb, hml, hown, hts⟩ (m_isName_t l D cI cP cR nm (by omega)) (va_cwS 1 hts gX3_change_X3_isName rfl rfl rfl (by decide +kernel) ⟨Nat.le_of_ble_eq_true rfl, Nat.le_of_ble_eq_true rfl⟩) hK rfl hl.1 rfl (Nat.le_of_ble_eq_true rfl) dX3_change_8 ⟨Nat.zero_le _, Nat.zero_le _⟩ ?_
  refine lv_if_ne (tgt := 16) hx hb dX3_change_11 (by decide) (fun c => ?_) (fun c => absurd c (by decide))
  refine lv_aload_n hx hb dX3_change_16 rfl (lv_at hl 0 rfl) ?_
  refine lv_iload_n hx hb dX3_change_17 rfl (lv_at hl 1 rfl) ?_
  -- m_bh_s
  refine pw_cVm (As := [.int (nI p)]) (rest := []) (wc := [(x, .inr (3, [.ref t, .ref z, .int (nI md), .ref rf, .ref rw, .ref pl, .ref hd, .ref ha, .ref lo, .ref ol, .ref as_])), (t, .inl (cI, 192, .inl (flT T))), (z, .inl (cI, 3, .inl (zI Z))), (rf, .inl (cI, 4, .inl (RF))), (rw, .inl (cI, 4, .inl (R))), (pl, .inl (cI, 4, .inl (P))), (hd, .inl (cI, 4, .inl (Hd))), (ha, .inl (cI, 4, .inl (HA))), (lo, .inl (cI, 4, .inl (Lo))), (ol, .inl (cI, 4, .inl (Ol))), (as_, .inl (cI, 64, .inl (AS)))]) (wr := []) ⟨hx, hb, hml, hown, hts⟩ (m_bh_s l D cI cP cR x t z rf rw pl hd ha lo ol as_ md T Z RF R P Hd HA Lo Ol AS p (by omega) hR1 hO hL hH) (cwV 1 hts gX3_change_X3_barsHand rfl rfl rfl (by decide +kernel) ⟨Nat.le_of_ble_eq_true rfl, Nat.le_of_ble_eq_true rfl⟩) hK hP hD hS hA [0, 1, 2, 3, 4, 5, 6, 7, 8, 9, 10] [] rfl rfl (by decide) (by decide) (by decide) 0 rfl rfl rfl rfl hl.1 rfl (Nat.le_of_ble_eq_true rfl) dX3_change_18 ⟨Nat.zero_le _, Nat.zero_le _⟩ (fun v1 w1 H locs hq hP hD hS => ?_)
  rcases hq with ⟨rfl, rfl⟩
  have hP : va_P D vwCl ([(x, .inr (3, [.ref t, .ref z, .int (nI md), .ref rf, .ref rw, .ref pl, .ref hd, .ref ha, .ref lo, .ref ol, .ref as_])), (t, .inl (cI, 192, .inl (flT T))), (z, .inl (cI, 3, .inl (zI Z))), (rf, .inl (cI, 4, .inl (upd RF 2 (RF 2 + nI 1)))), (rw, .inl (cI, 4, .inl (R))), (pl, .inl (cI, 4, .inl (P))), (hd, .inl (cI, 4, .inl (Hd))), (ha, .inl (cI, 4, .inl (HA))), (lo, .inl (cI, 4, .inl (Lo))), (ol, .inl (cI, 4, .inl (Ol))), (as_, .inl (cI, 64, .inl (AS)))]) H := hP
  have hD : va_D A ([(x, .inr (3, [.ref t, .ref z, .int (nI md), .ref rf, .ref rw, .ref pl, .ref hd, .ref ha, .ref lo, .ref ol, .ref as_])), (t, .inl (cI, 192, .inl (flT T))), (z, .inl (cI, 3, .inl (zI Z))), (rf, .inl (cI, 4, .inl (upd RF 2 (RF 2 + nI 1)))), (rw, .inl (cI, 4, .inl (R))), (pl, .inl (cI, 4, .inl (P))), (hd, .inl (cI, 4, .inl (Hd))), (ha, .inl (cI, 4, .inl (HA))), (lo, .inl (cI, 4, .inl (Lo))), (ol, .inl (cI, 4, .inl (Ol))), (as_, .inl (cI, 64, .inl (AS)))]) := hD
  refine W.eq (g2 := F0 m 21 ls [.int (-7)]) rfl ?_
  refine lv_istore_n (lv' := [(3, .int (-7)), (0, .ref x), (1, .int (nI p)), (2, .int (nI nm))]) hx hb dX3_change_21 rfl hl (by decide) rfl (fun ls hl => ?_)
  refine lv_iload_n hx hb dX3_change_22 rfl (lv_at hl 0 rfl) ?_
  refine lv_if_ge (tgt := 28) hx hb dX3_change_23 (by decide) (fun c => absurd c (by decide)) (fun c => ?_)
  refine lv_iload_n hx hb dX3_change_26 rfl (lv_at hl 0 rfl) ?_
  have hP := hP.sub (ws' := [(x, .inr (3, [.ref t, .ref z, .int (nI md), .ref rf, .ref rw, .ref pl, .ref hd, .ref ha, .ref lo, .ref ol, .ref as_])), (t, .inl (cI, 192, .inl (flT T))), (z, .inl (cI, 3, .inl (zI Z))), (rf, .inl (cI, 4, .inl (upd RF 2 (RF 2 + nI 1)))), (rw, .inl (cI, 4, .inl (R))), (pl, .inl (cI, 4, .inl (P))), (hd, .inl (cI, 4, .inl (Hd))), (ha, .inl (cI, 4, .inl (HA))), (lo, .inl (cI, 4, .inl (Lo))), (ol, .inl (cI, 4, .inl (Ol))), (as_, .inl (cI, 64, .inl (AS)))]) [0, 1, 2, 3, 4, 5, 6, 7, 8, 9, 10] rfl
  have hD := hD.sub (ws' := [(x, .inr (3, [.ref t, .ref z, .int (nI md), .ref rf, .ref rw, .ref pl, .ref hd, .ref ha, .ref lo, .ref ol, .ref as_])), (t, .inl (cI, 192, .inl (flT T))), (z, .inl (cI, 3, .inl (zI Z))), (rf, .inl (cI, 4, .inl (upd RF 2 (RF 2 + nI 1)))), (rw, .inl (cI, 4, .inl (R))), (pl, .inl (cI, 4, .inl (P))), (hd, .inl (cI, 4, .inl (Hd))), (ha, .inl (cI, 4, .inl (HA))), (lo, .inl (cI, 4, .inl (Lo))), (ol, .inl (cI, 4, .inl (Ol))), (as_, .inl (cI, 64, .inl (AS)))]) [0, 1, 2, 3, 4, 5, 6, 7, 8, 9, 10] (by decide) rfl
  exact pw_iret hx hb hr (rfl) hlocks dX3_change_27 hS hP hD (⟨rfl, rfl⟩)
set_option maxHeartbeats 4000000 in
set_option maxRecDepth 100000 in
theorem n_change_l (l : Launch) (D : va_G) (cI cP cR : ClassId) (x t z rf rw pl hd ha lo ol as_ md : Nat) (T : Nat → Nat → Int32) (Z : Nat → Nat) (RF R P Hd HA Lo Ol AS : Nat → Int32) (p i : Nat) (hp4 : p < 4) (hi : i < 3) (hz : Z i ≤ 60) (hR : R p = nI i) (hO : ¬ Ol p = nI 1) (hL : ¬ Lo p = nI 1) (hH : ¬ Hd p = -1) (j : Nat) (hj : j < Z i) (hA_ : HA p = nI j) (hd_ : ¬ T i j = Hd p) (nm : Nat) (hnm : nm < 10) : pw_Mp l yX3_change wsX3_change ({ frames := 3, cells := 0, slots := 0, locals := 65 } : Room) D cI cP cR [.ref x, .int (nI p), .int (nI nm)] ([(x, .inr (3, [.ref t, .ref z, .int (nI md), .ref rf, .ref rw, .ref pl, .ref hd, .ref ha, .ref lo, .ref ol, .ref as_])), (t, .inl (cI, 192, .inl (flT T))), (z, .inl (cI, 3, .inl (zI Z))), (rf, .inl (cI, 4, .inl (RF))), (rw, .inl (cI, 4, .inl (R))), (pl, .inl (cI, 4, .inl (P))), (hd, .inl (cI, 4, .inl (Hd))), (ha, .inl (cI, 4, .inl (HA))), (lo, .inl (cI, 4, .inl (Lo))), (ol, .inl (cI, 4, .inl (Ol))), (as_, .inl (cI, 64, .inl (AS)))]) (.int (-8)) := by
  refine pw_ofp (cc := cX3_change) (maxL := 5) (ret := (some .int)) (own := RX3) (by decide +kernel) rfl rfl (Nat.le_of_ble_eq_true rfl) ?_
  intro p_ e_ s m bel meth cd hE hK hP hD ls hl
  obtain ⟨hx, hb, hr, hml, hown, hts, hlocks⟩ := hE
  have hNW := hK.2
  have hl : lv_has ls 5 [(0, .ref x), (1, .int (nI p)), (2, .int (nI nm))] := hl
  refine lv_iload_n hx hb dX3_change_0 rfl (lv_at hl 1 rfl) ?_
  -- m_isPeg_t
  refine pw_cSp (As := [.int (nI p)]) (rest := []) ⟨hx, hb, hml, hown, hts⟩ (m_isPeg_t l D cI cP cR p (by omega)) (va_cwS 1 hts gX3_change_X3_isPeg rfl rfl rfl (by decide +kernel) ⟨Nat.le_of_ble_eq_true rfl, Nat.le_of_ble_eq_true rfl⟩) hK rfl hl.1 rfl (Nat.le_of_ble_eq_true rfl) dX3_change_1 ⟨Nat.zero_le _, Nat.zero_le _⟩ ?_
  refine lv_if_eq (tgt := 14) hx hb dX3_change_4 (by decide) (fun c => absurd c (by decide)) (fun c => ?_)
  refine lv_iload_n hx hb dX3_change_7 rfl (lv_at hl 2 rfl) ?_
  -- m_isName_t
  refine pw_cSp (As := [.int (nI nm)]) (rest := []) ⟨hx, hb, hml, hown, hts⟩ (m_isName_t l D cI cP cR nm (by omega)) (va_cwS 1 hts gX3_change_X3_isName rfl rfl rfl (by decide +kernel) ⟨Nat.le_of_ble_eq_true rfl, Nat.le_of_ble_eq_true rfl⟩) hK rfl hl.1 rfl (Nat.le_of_ble_eq_true rfl) dX3_change_8 ⟨Nat.zero_le _, Nat.zero_le _⟩ ?_
  refine lv_if_ne (tgt := 16) hx hb dX3_change_11 (by decide) (fun c => ?_) (fun c => absurd c (by decide))
  refine lv_aload_n hx hb dX3_change_16 rfl (lv_at hl 0 rfl) ?_
  refine lv_iload_n hx hb dX3_change_17 rfl (lv_at hl 1 rfl) ?_
  -- m_bh_l
  refine pw_cVp (As := [.int (nI p)]) (rest := []) (wc := [(x, .inr (3, [.ref t, .ref z, .int (nI md), .ref rf, .ref rw, .ref pl, .ref hd, .ref ha, .ref lo, .ref ol, .ref as_])), (t, .inl (cI, 192, .inl (flT T))), (z, .inl (cI, 3, .inl (zI Z))), (rf, .inl (cI, 4, .inl (RF))), (rw, .inl (cI, 4, .inl (R))), (pl, .inl (cI, 4, .inl (P))), (hd, .inl (cI, 4, .inl (Hd))), (ha, .inl (cI, 4, .inl (HA))), (lo, .inl (cI, 4, .inl (Lo))), (ol, .inl (cI, 4, .inl (Ol))), (as_, .inl (cI, 64, .inl (AS)))]) ⟨hx, hb, hml, hown, hts⟩ (m_bh_l l D cI cP cR x t z rf rw pl hd ha lo ol as_ md T Z RF R P Hd HA Lo Ol AS p i (by omega) (by omega) (by omega) hR hO hL hH j (by omega) hA_ hd_) (cwV 1 hts gX3_change_X3_barsHand rfl rfl rfl (by decide +kernel) ⟨Nat.le_of_ble_eq_true rfl, Nat.le_of_ble_eq_true rfl⟩) hK hP hD [0, 1, 2, 3, 4, 5, 6, 7, 8, 9, 10] rfl (by decide) 0 rfl rfl rfl rfl hl.1 rfl (Nat.le_of_ble_eq_true rfl) dX3_change_18 ⟨Nat.zero_le _, Nat.zero_le _⟩ ?_
  refine lv_istore_n (lv' := [(3, .int (-8)), (0, .ref x), (1, .int (nI p)), (2, .int (nI nm))]) hx hb dX3_change_21 rfl hl (by decide) rfl (fun ls hl => ?_)
  refine lv_iload_n hx hb dX3_change_22 rfl (lv_at hl 0 rfl) ?_
  refine lv_if_ge (tgt := 28) hx hb dX3_change_23 (by decide) (fun c => absurd c (by decide)) (fun c => ?_)
  refine lv_iload_n hx hb dX3_change_26 rfl (lv_at hl 0 rfl) ?_
  exact pw_piret hx hb hr (rfl) hlocks dX3_change_27 (rfl)
theorem hi_X3_change_3 : ∀ w ∈ u_ws RX3 TX3 11, w ∈ wsX3_change := by decide +kernel
theorem hf_X3_change_7 : Cond.fieldLink RX3 7 "PegrowModel" "things" "[I" ∈ wsX3_change := by decide +kernel
theorem hf_X3_change_19 : Cond.fieldLink RX3 19 "PegrowModel" "rowOf" "[I" ∈ wsX3_change := by decide +kernel
theorem hf_X3_change_25 : Cond.fieldLink RX3 25 "PegrowModel" "hand" "[I" ∈ wsX3_change := by decide +kernel
theorem hf_X3_change_28 : Cond.fieldLink RX3 28 "PegrowModel" "handAt" "[I" ∈ wsX3_change := by decide +kernel
set_option maxHeartbeats 4000000 in
set_option maxRecDepth 100000 in
theorem n_change (l : Launch) (D : va_G) (cI cP cR : ClassId) (x t z rf rw pl hd ha lo ol as_ md : Nat) (T : Nat → Nat → Int32) (Z : Nat → Nat) (RF R P Hd HA Lo Ol AS : Nat → Int32) (p i : Nat) (hp4 : p < 4) (hi : i < 3) (hz : Z i ≤ 60) (hR : R p = nI i) (hO : ¬ Ol p = nI 1) (hL : ¬ Lo p = nI 1) (hH : ¬ Hd p = -1) (j : Nat) (hj : j < Z i) (hA_ : HA p = nI j) (hd_ : T i j = Hd p) (nm : Nat) (hnm : nm < 10) : pw_Mm l yX3_change wsX3_change ({ frames := 3, cells := 0, slots := 0, locals := 65 } : Room) D cI cP cR [.ref x, .int (nI p), .int (nI nm)] ([(x, .inr (3, [.ref t, .ref z, .int (nI md), .ref rf, .ref rw, .ref pl, .ref hd, .ref ha, .ref lo, .ref ol, .ref as_])), (t, .inl (cI, 192, .inl (flT T))), (z, .inl (cI, 3, .inl (zI Z))), (rf, .inl (cI, 4, .inl (RF))), (rw, .inl (cI, 4, .inl (R))), (pl, .inl (cI, 4, .inl (P))), (hd, .inl (cI, 4, .inl (Hd))), (ha, .inl (cI, 4, .inl (HA))), (lo, .inl (cI, 4, .inl (Lo))), (ol, .inl (cI, 4, .inl (Ol))), (as_, .inl (cI, 64, .inl (AS)))]) (fun v w => v = some (.int (Hd p)) ∧ w = [(x, .inr (3, [.ref t, .ref z, .int (nI (md + 1)), .ref rf, .ref rw, .ref pl, .ref hd, .ref ha, .ref lo, .ref ol, .ref as_])), (t, .inl (cI, 192, .inl (flT (upR T i (upd (T i) j (nI ((md * 10) + nm))))))), (z, .inl (cI, 3, .inl (zI Z))), (rf, .inl (cI, 4, .inl (RF))), (rw, .inl (cI, 4, .inl (R))), (pl, .inl (cI, 4, .inl (P))), (hd, .inl (cI, 4, .inl (upd Hd p (nI ((md * 10) + nm))))), (ha, .inl (cI, 4, .inl (HA))), (lo, .inl (cI, 4, .inl (Lo))), (ol, .inl (cI, 4, .inl (Ol))), (as_, .inl (cI, 64, .inl (AS)))]) := by
  refine pw_ofm (cc := cX3_change) (maxL := 5) (ret := (some .int)) (own := RX3) (by decide +kernel) rfl rfl (Nat.le_of_ble_eq_true rfl) ?_
  intro p_ e_ s m bel meth cd A hE hK hP hD hA hS ls hl
  obtain ⟨hx, hb, hr, hml, hown, hts, hlocks⟩ := hE
  have hNW := hK.2
  have hl : lv_has ls 5 [(0, .ref x), (1, .int (nI p)), (2, .int (nI nm))] := hl
  refine lv_iload_n hx hb dX3_change_0 rfl (lv_at hl 1 rfl) ?_
  -- m_isPeg_t
  refine pw_cSp (As := [.int (nI p)]) (rest := []) ⟨hx, hb, hml, hown, hts⟩ (m_isPeg_t l D cI cP cR p (by omega)) (va_cwS 1 hts gX3_change_X3_isPeg rfl rfl rfl (by decide +kernel) ⟨Nat.le_of_ble_eq_true rfl, Nat.le_of_ble_eq_true rfl⟩) hK rfl hl.1 rfl (Nat.le_of_ble_eq_true rfl) dX3_change_1 ⟨Nat.zero_le _, Nat.zero_le _⟩ ?_
  refine lv_if_eq (tgt := 14) hx hb dX3_change_4 (by decide) (fun c => absurd c (by decide)) (fun c => ?_)
  refine lv_iload_n hx hb dX3_change_7 rfl (lv_at hl 2 rfl) ?_
  -- m_isName_t
  refine pw_cSp (As := [.int (nI nm)]) (rest := []) ⟨hx, hb, hml, hown, hts⟩ (m_isName_t l D cI cP cR nm (by omega)) (va_cwS 1 hts gX3_change_X3_isName rfl rfl rfl (by decide +kernel) ⟨Nat.le_of_ble_eq_true rfl, Nat.le_of_ble_eq_true rfl⟩) hK rfl hl.1 rfl (Nat.le_of_ble_eq_true rfl) dX3_change_8 ⟨Nat.zero_le _, Nat.zero_le _⟩ ?_
  refine lv_if_ne (tgt := 16) hx hb dX3_change_11 (by decide) (fun c => ?_) (fun c => absurd c (by decide))
  refine lv_aload_n hx hb dX3_change_16 rfl (lv_at hl 0 rfl) ?_
  refine lv_iload_n hx hb dX3_change_17 rfl (lv_at hl 1 rfl) ?_
  -- m_bh
  refine pw_cVp (As := [.int (nI p)]) (rest := []) (wc := [(x, .inr (3, [.ref t, .ref z, .int (nI md), .ref rf, .ref rw, .ref pl, .ref hd, .ref ha, .ref lo, .ref ol, .ref as_])), (t, .inl (cI, 192, .inl (flT T))), (z, .inl (cI, 3, .inl (zI Z))), (rf, .inl (cI, 4, .inl (RF))), (rw, .inl (cI, 4, .inl (R))), (pl, .inl (cI, 4, .inl (P))), (hd, .inl (cI, 4, .inl (Hd))), (ha, .inl (cI, 4, .inl (HA))), (lo, .inl (cI, 4, .inl (Lo))), (ol, .inl (cI, 4, .inl (Ol))), (as_, .inl (cI, 64, .inl (AS)))]) ⟨hx, hb, hml, hown, hts⟩ (m_bh l D cI cP cR x t z rf rw pl hd ha lo ol as_ md T Z RF R P Hd HA Lo Ol AS p i (by omega) (by omega) (by omega) hR hO hL hH j (by omega) hA_ hd_) (cwV 1 hts gX3_change_X3_barsHand rfl rfl rfl (by decide +kernel) ⟨Nat.le_of_ble_eq_true rfl, Nat.le_of_ble_eq_true rfl⟩) hK hP hD [0, 1, 2, 3, 4, 5, 6, 7, 8, 9, 10] rfl (by decide) 0 rfl rfl rfl rfl hl.1 rfl (Nat.le_of_ble_eq_true rfl) dX3_change_18 ⟨Nat.zero_le _, Nat.zero_le _⟩ ?_
  refine lv_istore_n (lv' := [(3, .int (nI 0)), (0, .ref x), (1, .int (nI p)), (2, .int (nI nm))]) hx hb dX3_change_21 rfl hl (by decide) rfl (fun ls hl => ?_)
  refine lv_iload_n hx hb dX3_change_22 rfl (lv_at hl 0 rfl) ?_
  refine lv_if_ge (tgt := 28) hx hb dX3_change_23 (by decide) (fun c => ?_) (fun c => absurd c (by decide))
  refine lv_aload_n hx hb dX3_change_28 rfl (lv_at hl 1 rfl) ?_
  refine va_get (D := D) (ci := 3) (v := .ref hd) (C := RX3) (T := TX3) (N := 11) hx hb hts hi_X3_change_3 hown hK.1 hP 0 rfl rfl 6 (by decide) (hts _ hf_X3_change_25) (fun _ h9 => h9) rfl dX3_change_29 ?_
  refine lv_iload_n hx hb dX3_change_32 rfl (lv_at hl 2 rfl) ?_
  refine pw_iald hx hb hK.1 hP 6 0 rfl rfl (by decide) (by omega) dX3_change_33 ?_
  refine lv_istore (lv' := [(4, .int (Hd p)), (3, .int (nI 0)), (0, .ref x), (1, .int (nI p)), (2, .int (nI nm))]) hx hb dX3_change_34 hl (by decide) rfl (fun ls hl => ?_)
  refine lv_aload_n hx hb dX3_change_36 rfl (lv_at hl 2 rfl) ?_
  refine va_get (D := D) (ci := 3) (v := .ref hd) (C := RX3) (T := TX3) (N := 11) hx hb hts hi_X3_change_3 hown hK.1 hP 0 rfl rfl 6 (by decide) (hts _ hf_X3_change_25) (fun _ h9 => h9) rfl dX3_change_37 ?_
  refine lv_iload_n hx hb dX3_change_40 rfl (lv_at hl 3 rfl) ?_
  refine lv_aload_n hx hb dX3_change_41 rfl (lv_at hl 2 rfl) ?_
  refine lv_iload_n hx hb dX3_change_42 rfl (lv_at hl 4 rfl) ?_
  -- m_make
  refine pw_cVm (As := [.int (nI nm)]) (rest := [.int (nI p), .ref hd]) (wc := [(x, .inr (3, [.ref t, .ref z, .int (nI md), .ref rf, .ref rw, .ref pl, .ref hd, .ref ha, .ref lo, .ref ol, .ref as_]))]) (wr := [(t, .inl (cI, 192, .inl (flT T))), (z, .inl (cI, 3, .inl (zI Z))), (rf, .inl (cI, 4, .inl (RF))), (rw, .inl (cI, 4, .inl (R))), (pl, .inl (cI, 4, .inl (P))), (hd, .inl (cI, 4, .inl (Hd))), (ha, .inl (cI, 4, .inl (HA))), (lo, .inl (cI, 4, .inl (Lo))), (ol, .inl (cI, 4, .inl (Ol))), (as_, .inl (cI, 64, .inl (AS)))]) ⟨hx, hb, hml, hown, hts⟩ (m_make l D cI cP cR x t z rf rw pl hd ha lo ol as_ md nm) (cwV 1 hts gX3_change_X3_make rfl rfl rfl (by decide +kernel) ⟨Nat.le_of_ble_eq_true rfl, Nat.le_of_ble_eq_true rfl⟩) hK hP hD hS hA [0] [1, 2, 3, 4, 5, 6, 7, 8, 9, 10] rfl rfl (by decide) (by decide) (by decide) 0 rfl rfl rfl rfl hl.1 rfl (Nat.le_of_ble_eq_true rfl) dX3_change_43 ⟨Nat.zero_le _, Nat.zero_le _⟩ (fun v1 w1 H locs hq hP hD hS => ?_)
  rcases hq with ⟨rfl, rfl⟩
  have hP : va_P D vwCl ([(t, .inl (cI, 192, .inl (flT T))), (z, .inl (cI, 3, .inl (zI Z))), (rf, .inl (cI, 4, .inl (RF))), (rw, .inl (cI, 4, .inl (R))), (pl, .inl (cI, 4, .inl (P))), (hd, .inl (cI, 4, .inl (Hd))), (ha, .inl (cI, 4, .inl (HA))), (lo, .inl (cI, 4, .inl (Lo))), (ol, .inl (cI, 4, .inl (Ol))), (as_, .inl (cI, 64, .inl (AS))), (x, .inr (3, [.ref t, .ref z, .int (nI (md + 1)), .ref rf, .ref rw, .ref pl, .ref hd, .ref ha, .ref lo, .ref ol, .ref as_]))]) H := hP
  have hD : va_D A ([(t, .inl (cI, 192, .inl (flT T))), (z, .inl (cI, 3, .inl (zI Z))), (rf, .inl (cI, 4, .inl (RF))), (rw, .inl (cI, 4, .inl (R))), (pl, .inl (cI, 4, .inl (P))), (hd, .inl (cI, 4, .inl (Hd))), (ha, .inl (cI, 4, .inl (HA))), (lo, .inl (cI, 4, .inl (Lo))), (ol, .inl (cI, 4, .inl (Ol))), (as_, .inl (cI, 64, .inl (AS))), (x, .inr (3, [.ref t, .ref z, .int (nI (md + 1)), .ref rf, .ref rw, .ref pl, .ref hd, .ref ha, .ref lo, .ref ol, .ref as_]))]) := hD
  refine W.eq (g2 := F0 m 46 ls [.int (nI ((md * 10) + nm)), .int (nI p), .ref hd]) rfl ?_
  refine pw_iast hx hb hK.1 hP hD hS 5 0 rfl rfl (by decide) (by omega) dX3_change_46 (fun H locs hP hD hS => ?_)
  have hP : va_P D vwCl ([(t, .inl (cI, 192, .inl (flT T))), (z, .inl (cI, 3, .inl (zI Z))), (rf, .inl (cI, 4, .inl (RF))), (rw, .inl (cI, 4, .inl (R))), (pl, .inl (cI, 4, .inl (P))), (hd, .inl (cI, 4, .inl (upd Hd p (nI ((md * 10) + nm))))), (ha, .inl (cI, 4, .inl (HA))), (lo, .inl (cI, 4, .inl (Lo))), (ol, .inl (cI, 4, .inl (Ol))), (as_, .inl (cI, 64, .inl (AS))), (x, .inr (3, [.ref t, .ref z, .int (nI (md + 1)), .ref rf, .ref rw, .ref pl, .ref hd, .ref ha, .ref lo, .ref ol, .ref as_]))]) H := hP
  have hD : va_D A ([(t, .inl (cI, 192, .inl (flT T))), (z, .inl (cI, 3, .inl (zI Z))), (rf, .inl (cI, 4, .inl (RF))), (rw, .inl (cI, 4, .inl (R))), (pl, .inl (cI, 4, .inl (P))), (hd, .inl (cI, 4, .inl (upd Hd p (nI ((md * 10) + nm))))), (ha, .inl (cI, 4, .inl (HA))), (lo, .inl (cI, 4, .inl (Lo))), (ol, .inl (cI, 4, .inl (Ol))), (as_, .inl (cI, 64, .inl (AS))), (x, .inr (3, [.ref t, .ref z, .int (nI (md + 1)), .ref rf, .ref rw, .ref pl, .ref hd, .ref ha, .ref lo, .ref ol, .ref as_]))]) := hD
  refine lv_aload_n hx hb dX3_change_47 rfl (lv_at hl 2 rfl) ?_
  refine va_get (D := D) (ci := 3) (v := .ref t) (C := RX3) (T := TX3) (N := 11) hx hb hts hi_X3_change_3 hown hK.1 hP 10 rfl rfl 0 (by decide) (hts _ hf_X3_change_7) (fun _ h9 => h9) rfl dX3_change_48 ?_
  refine lv_bipush (v := nI 64) hx hb dX3_change_51 (by decide) ?_
  refine lv_aload_n hx hb dX3_change_53 rfl (lv_at hl 2 rfl) ?_
  refine va_get (D := D) (ci := 3) (v := .ref rw) (C := RX3) (T := TX3) (N := 11) hx hb hts hi_X3_change_3 hown hK.1 hP 10 rfl rfl 4 (by decide) (hts _ hf_X3_change_19) (fun _ h9 => h9) rfl dX3_change_54 ?_
  refine lv_iload_n hx hb dX3_change_57 rfl (lv_at hl 3 rfl) ?_
  refine pw_iald hx hb hK.1 hP 3 0 rfl rfl (by decide) (by omega) dX3_change_58 ?_
  refine pw_top (y := nI i) hR ?_
  refine pw_imul hx hb dX3_change_59 ?_
  refine lv_aload_n hx hb dX3_change_60 rfl (lv_at hl 2 rfl) ?_
  refine va_get (D := D) (ci := 3) (v := .ref ha) (C := RX3) (T := TX3) (N := 11) hx hb hts hi_X3_change_3 hown hK.1 hP 10 rfl rfl 7 (by decide) (hts _ hf_X3_change_28) (fun _ h9 => h9) rfl dX3_change_61 ?_
  refine lv_iload_n hx hb dX3_change_64 rfl (lv_at hl 3 rfl) ?_
  refine pw_iald hx hb hK.1 hP 6 0 rfl rfl (by decide) (by omega) dX3_change_65 ?_
  refine pw_top (y := nI j) hA_ ?_
  refine pw_iadd hx hb dX3_change_66 ?_
  refine lv_aload_n hx hb dX3_change_67 rfl (lv_at hl 2 rfl) ?_
  refine va_get (D := D) (ci := 3) (v := .ref hd) (C := RX3) (T := TX3) (N := 11) hx hb hts hi_X3_change_3 hown hK.1 hP 10 rfl rfl 6 (by decide) (hts _ hf_X3_change_25) (fun _ h9 => h9) rfl dX3_change_68 ?_
  refine lv_iload_n hx hb dX3_change_71 rfl (lv_at hl 3 rfl) ?_
  refine pw_iald hx hb hK.1 hP 5 0 rfl rfl (by decide) (by omega) dX3_change_72 ?_
  refine pw_top (y := nI ((md * 10) + nm)) (upd_s _ _ _) ?_
  refine pw_iast hx hb hK.1 hP hD hS 0 0 rfl rfl (by decide) (by omega) dX3_change_73 (fun H locs hP hD hS => ?_)
  have hP : va_P D vwCl ([(t, .inl (cI, 192, .inl (upd (flT T) ((64 * i) + j) (nI ((md * 10) + nm))))), (z, .inl (cI, 3, .inl (zI Z))), (rf, .inl (cI, 4, .inl (RF))), (rw, .inl (cI, 4, .inl (R))), (pl, .inl (cI, 4, .inl (P))), (hd, .inl (cI, 4, .inl (upd Hd p (nI ((md * 10) + nm))))), (ha, .inl (cI, 4, .inl (HA))), (lo, .inl (cI, 4, .inl (Lo))), (ol, .inl (cI, 4, .inl (Ol))), (as_, .inl (cI, 64, .inl (AS))), (x, .inr (3, [.ref t, .ref z, .int (nI (md + 1)), .ref rf, .ref rw, .ref pl, .ref hd, .ref ha, .ref lo, .ref ol, .ref as_]))]) H := hP
  have hD : va_D A ([(t, .inl (cI, 192, .inl (upd (flT T) ((64 * i) + j) (nI ((md * 10) + nm))))), (z, .inl (cI, 3, .inl (zI Z))), (rf, .inl (cI, 4, .inl (RF))), (rw, .inl (cI, 4, .inl (R))), (pl, .inl (cI, 4, .inl (P))), (hd, .inl (cI, 4, .inl (upd Hd p (nI ((md * 10) + nm))))), (ha, .inl (cI, 4, .inl (HA))), (lo, .inl (cI, 4, .inl (Lo))), (ol, .inl (cI, 4, .inl (Ol))), (as_, .inl (cI, 64, .inl (AS))), (x, .inr (3, [.ref t, .ref z, .int (nI (md + 1)), .ref rf, .ref rw, .ref pl, .ref hd, .ref ha, .ref lo, .ref ol, .ref as_]))]) := hD
  rw [flT_upd _ _ _ _ (by omega)] at hP hD
  refine lv_iload hx hb dX3_change_74 (lv_at hl 0 rfl) ?_
  have hP := hP.sub (ws' := [(x, .inr (3, [.ref t, .ref z, .int (nI (md + 1)), .ref rf, .ref rw, .ref pl, .ref hd, .ref ha, .ref lo, .ref ol, .ref as_])), (t, .inl (cI, 192, .inl (flT (upR T i (upd (T i) j (nI ((md * 10) + nm))))))), (z, .inl (cI, 3, .inl (zI Z))), (rf, .inl (cI, 4, .inl (RF))), (rw, .inl (cI, 4, .inl (R))), (pl, .inl (cI, 4, .inl (P))), (hd, .inl (cI, 4, .inl (upd Hd p (nI ((md * 10) + nm))))), (ha, .inl (cI, 4, .inl (HA))), (lo, .inl (cI, 4, .inl (Lo))), (ol, .inl (cI, 4, .inl (Ol))), (as_, .inl (cI, 64, .inl (AS)))]) [10, 0, 1, 2, 3, 4, 5, 6, 7, 8, 9] rfl
  have hD := hD.sub (ws' := [(x, .inr (3, [.ref t, .ref z, .int (nI (md + 1)), .ref rf, .ref rw, .ref pl, .ref hd, .ref ha, .ref lo, .ref ol, .ref as_])), (t, .inl (cI, 192, .inl (flT (upR T i (upd (T i) j (nI ((md * 10) + nm))))))), (z, .inl (cI, 3, .inl (zI Z))), (rf, .inl (cI, 4, .inl (RF))), (rw, .inl (cI, 4, .inl (R))), (pl, .inl (cI, 4, .inl (P))), (hd, .inl (cI, 4, .inl (upd Hd p (nI ((md * 10) + nm))))), (ha, .inl (cI, 4, .inl (HA))), (lo, .inl (cI, 4, .inl (Lo))), (ol, .inl (cI, 4, .inl (Ol))), (as_, .inl (cI, 64, .inl (AS)))]) [10, 0, 1, 2, 3, 4, 5, 6, 7, 8, 9] (by decide) rfl
  exact pw_iret hx hb hr (rfl) hlocks dX3_change_76 hS hP hD (⟨rfl, rfl⟩)
set_option maxHeartbeats 4000000 in
set_option maxRecDepth 100000 in
theorem n_remove_n (l : Launch) (D : va_G) (cI cP cR : ClassId) (x t z rf rw pl hd ha lo ol as_ md : Nat) (T : Nat → Nat → Int32) (Z : Nat → Nat) (RF R P Hd HA Lo Ol AS : Nat → Int32) (p : Nat) (hp4 : p < 4) (hR : R p = -1) : pw_Mp l yX3_remove wsX3_remove ({ frames := 3, cells := 0, slots := 0, locals := 65 } : Room) D cI cP cR [.ref x, .int (nI p)] ([(x, .inr (3, [.ref t, .ref z, .int (nI md), .ref rf, .ref rw, .ref pl, .ref hd, .ref ha, .ref lo, .ref ol, .ref as_])), (t, .inl (cI, 192, .inl (flT T))), (z, .inl (cI, 3, .inl (zI Z))), (rf, .inl (cI, 4, .inl (RF))), (rw, .inl (cI, 4, .inl (R))), (pl, .inl (cI, 4, .inl (P))), (hd, .inl (cI, 4, .inl (Hd))), (ha, .inl (cI, 4, .inl (HA))), (lo, .inl (cI, 4, .inl (Lo))), (ol, .inl (cI, 4, .inl (Ol))), (as_, .inl (cI, 64, .inl (AS)))]) (.int (-2)) := by
  refine pw_ofp (cc := cX3_remove) (maxL := 4) (ret := (some .int)) (own := RX3) (by decide +kernel) rfl rfl (Nat.le_of_ble_eq_true rfl) ?_
  intro p_ e_ s m bel meth cd hE hK hP hD ls hl
  obtain ⟨hx, hb, hr, hml, hown, hts, hlocks⟩ := hE
  have hNW := hK.2
  have hl : lv_has ls 4 [(0, .ref x), (1, .int (nI p))] := hl
  refine lv_iload_n hx hb dX3_remove_0 rfl (lv_at hl 1 rfl) ?_
  -- m_isPeg_t
  refine pw_cSp (As := [.int (nI p)]) (rest := []) ⟨hx, hb, hml, hown, hts⟩ (m_isPeg_t l D cI cP cR p (by omega)) (va_cwS 1 hts gX3_remove_X3_isPeg rfl rfl rfl (by decide +kernel) ⟨Nat.le_of_ble_eq_true rfl, Nat.le_of_ble_eq_true rfl⟩) hK rfl hl.1 rfl (Nat.le_of_ble_eq_true rfl) dX3_remove_1 ⟨Nat.zero_le _, Nat.zero_le _⟩ ?_
  refine lv_if_ne (tgt := 9) hx hb dX3_remove_4 (by decide) (fun c => ?_) (fun c => absurd c (by decide))
  refine lv_aload_n hx hb dX3_remove_9 rfl (lv_at hl 0 rfl) ?_
  refine lv_iload_n hx hb dX3_remove_10 rfl (lv_at hl 1 rfl) ?_
  -- m_bh_n
  refine pw_cVp (As := [.int (nI p)]) (rest := []) (wc := [(x, .inr (3, [.ref t, .ref z, .int (nI md), .ref rf, .ref rw, .ref pl, .ref hd, .ref ha, .ref lo, .ref ol, .ref as_])), (t, .inl (cI, 192, .inl (flT T))), (z, .inl (cI, 3, .inl (zI Z))), (rf, .inl (cI, 4, .inl (RF))), (rw, .inl (cI, 4, .inl (R))), (pl, .inl (cI, 4, .inl (P))), (hd, .inl (cI, 4, .inl (Hd))), (ha, .inl (cI, 4, .inl (HA))), (lo, .inl (cI, 4, .inl (Lo))), (ol, .inl (cI, 4, .inl (Ol))), (as_, .inl (cI, 64, .inl (AS)))]) ⟨hx, hb, hml, hown, hts⟩ (m_bh_n l D cI cP cR x t z rf rw pl hd ha lo ol as_ md T Z RF R P Hd HA Lo Ol AS p (by omega) hR) (cwV 1 hts gX3_remove_X3_barsHand rfl rfl rfl (by decide +kernel) ⟨Nat.le_of_ble_eq_true rfl, Nat.le_of_ble_eq_true rfl⟩) hK hP hD [0, 1, 2, 3, 4, 5, 6, 7, 8, 9, 10] rfl (by decide) 0 rfl rfl rfl rfl hl.1 rfl (Nat.le_of_ble_eq_true rfl) dX3_remove_11 ⟨Nat.zero_le _, Nat.zero_le _⟩ ?_
  refine lv_istore_n (lv' := [(2, .int (-2)), (0, .ref x), (1, .int (nI p))]) hx hb dX3_remove_14 rfl hl (by decide) rfl (fun ls hl => ?_)
  refine lv_iload_n hx hb dX3_remove_15 rfl (lv_at hl 0 rfl) ?_
  refine lv_if_ge (tgt := 21) hx hb dX3_remove_16 (by decide) (fun c => absurd c (by decide)) (fun c => ?_)
  refine lv_iload_n hx hb dX3_remove_19 rfl (lv_at hl 0 rfl) ?_
  exact pw_piret hx hb hr (rfl) hlocks dX3_remove_20 (rfl)
set_option maxHeartbeats 4000000 in
set_option maxRecDepth 100000 in
theorem n_remove_o (l : Launch) (D : va_G) (cI cP cR : ClassId) (x t z rf rw pl hd ha lo ol as_ md : Nat) (T : Nat → Nat → Int32) (Z : Nat → Nat) (RF R P Hd HA Lo Ol AS : Nat → Int32) (p : Nat) (hp4 : p < 4) (hR1 : ¬ R p = -1) (hO : Ol p = nI 1) : pw_Mm l yX3_remove wsX3_remove ({ frames := 3, cells := 0, slots := 0, locals := 65 } : Room) D cI cP cR [.ref x, .int (nI p)] ([(x, .inr (3, [.ref t, .ref z, .int (nI md), .ref rf, .ref rw, .ref pl, .ref hd, .ref ha, .ref lo, .ref ol, .ref as_])), (t, .inl (cI, 192, .inl (flT T))), (z, .inl (cI, 3, .inl (zI Z))), (rf, .inl (cI, 4, .inl (RF))), (rw, .inl (cI, 4, .inl (R))), (pl, .inl (cI, 4, .inl (P))), (hd, .inl (cI, 4, .inl (Hd))), (ha, .inl (cI, 4, .inl (HA))), (lo, .inl (cI, 4, .inl (Lo))), (ol, .inl (cI, 4, .inl (Ol))), (as_, .inl (cI, 64, .inl (AS)))]) (fun v w => v = some (.int (-4)) ∧ w = [(x, .inr (3, [.ref t, .ref z, .int (nI md), .ref rf, .ref rw, .ref pl, .ref hd, .ref ha, .ref lo, .ref ol, .ref as_])), (t, .inl (cI, 192, .inl (flT T))), (z, .inl (cI, 3, .inl (zI Z))), (rf, .inl (cI, 4, .inl (upd RF 3 (RF 3 + nI 1)))), (rw, .inl (cI, 4, .inl (R))), (pl, .inl (cI, 4, .inl (P))), (hd, .inl (cI, 4, .inl (Hd))), (ha, .inl (cI, 4, .inl (HA))), (lo, .inl (cI, 4, .inl (Lo))), (ol, .inl (cI, 4, .inl (Ol))), (as_, .inl (cI, 64, .inl (AS)))]) := by
  refine pw_ofm (cc := cX3_remove) (maxL := 4) (ret := (some .int)) (own := RX3) (by decide +kernel) rfl rfl (Nat.le_of_ble_eq_true rfl) ?_
  intro p_ e_ s m bel meth cd A hE hK hP hD hA hS ls hl
  obtain ⟨hx, hb, hr, hml, hown, hts, hlocks⟩ := hE
  have hNW := hK.2
  have hl : lv_has ls 4 [(0, .ref x), (1, .int (nI p))] := hl
  refine lv_iload_n hx hb dX3_remove_0 rfl (lv_at hl 1 rfl) ?_
  -- m_isPeg_t
  refine pw_cSp (As := [.int (nI p)]) (rest := []) ⟨hx, hb, hml, hown, hts⟩ (m_isPeg_t l D cI cP cR p (by omega)) (va_cwS 1 hts gX3_remove_X3_isPeg rfl rfl rfl (by decide +kernel) ⟨Nat.le_of_ble_eq_true rfl, Nat.le_of_ble_eq_true rfl⟩) hK rfl hl.1 rfl (Nat.le_of_ble_eq_true rfl) dX3_remove_1 ⟨Nat.zero_le _, Nat.zero_le _⟩ ?_
  refine lv_if_ne (tgt := 9) hx hb dX3_remove_4 (by decide) (fun c => ?_) (fun c => absurd c (by decide))
  refine lv_aload_n hx hb dX3_remove_9 rfl (lv_at hl 0 rfl) ?_
  refine lv_iload_n hx hb dX3_remove_10 rfl (lv_at hl 1 rfl) ?_
  -- m_bh_o
  refine pw_cVm (As := [.int (nI p)]) (rest := []) (wc := [(x, .inr (3, [.ref t, .ref z, .int (nI md), .ref rf, .ref rw, .ref pl, .ref hd, .ref ha, .ref lo, .ref ol, .ref as_])), (t, .inl (cI, 192, .inl (flT T))), (z, .inl (cI, 3, .inl (zI Z))), (rf, .inl (cI, 4, .inl (RF))), (rw, .inl (cI, 4, .inl (R))), (pl, .inl (cI, 4, .inl (P))), (hd, .inl (cI, 4, .inl (Hd))), (ha, .inl (cI, 4, .inl (HA))), (lo, .inl (cI, 4, .inl (Lo))), (ol, .inl (cI, 4, .inl (Ol))), (as_, .inl (cI, 64, .inl (AS)))]) (wr := []) ⟨hx, hb, hml, hown, hts⟩ (m_bh_o l D cI cP cR x t z rf rw pl hd ha lo ol as_ md T Z RF R P Hd HA Lo Ol AS p (by omega) hR1 hO) (cwV 1 hts gX3_remove_X3_barsHand rfl rfl rfl (by decide +kernel) ⟨Nat.le_of_ble_eq_true rfl, Nat.le_of_ble_eq_true rfl⟩) hK hP hD hS hA [0, 1, 2, 3, 4, 5, 6, 7, 8, 9, 10] [] rfl rfl (by decide) (by decide) (by decide) 0 rfl rfl rfl rfl hl.1 rfl (Nat.le_of_ble_eq_true rfl) dX3_remove_11 ⟨Nat.zero_le _, Nat.zero_le _⟩ (fun v1 w1 H locs hq hP hD hS => ?_)
  rcases hq with ⟨rfl, rfl⟩
  have hP : va_P D vwCl ([(x, .inr (3, [.ref t, .ref z, .int (nI md), .ref rf, .ref rw, .ref pl, .ref hd, .ref ha, .ref lo, .ref ol, .ref as_])), (t, .inl (cI, 192, .inl (flT T))), (z, .inl (cI, 3, .inl (zI Z))), (rf, .inl (cI, 4, .inl (upd RF 3 (RF 3 + nI 1)))), (rw, .inl (cI, 4, .inl (R))), (pl, .inl (cI, 4, .inl (P))), (hd, .inl (cI, 4, .inl (Hd))), (ha, .inl (cI, 4, .inl (HA))), (lo, .inl (cI, 4, .inl (Lo))), (ol, .inl (cI, 4, .inl (Ol))), (as_, .inl (cI, 64, .inl (AS)))]) H := hP
  have hD : va_D A ([(x, .inr (3, [.ref t, .ref z, .int (nI md), .ref rf, .ref rw, .ref pl, .ref hd, .ref ha, .ref lo, .ref ol, .ref as_])), (t, .inl (cI, 192, .inl (flT T))), (z, .inl (cI, 3, .inl (zI Z))), (rf, .inl (cI, 4, .inl (upd RF 3 (RF 3 + nI 1)))), (rw, .inl (cI, 4, .inl (R))), (pl, .inl (cI, 4, .inl (P))), (hd, .inl (cI, 4, .inl (Hd))), (ha, .inl (cI, 4, .inl (HA))), (lo, .inl (cI, 4, .inl (Lo))), (ol, .inl (cI, 4, .inl (Ol))), (as_, .inl (cI, 64, .inl (AS)))]) := hD
  refine W.eq (g2 := F0 m 14 ls [.int (-4)]) rfl ?_
  refine lv_istore_n (lv' := [(2, .int (-4)), (0, .ref x), (1, .int (nI p))]) hx hb dX3_remove_14 rfl hl (by decide) rfl (fun ls hl => ?_)
  refine lv_iload_n hx hb dX3_remove_15 rfl (lv_at hl 0 rfl) ?_
  refine lv_if_ge (tgt := 21) hx hb dX3_remove_16 (by decide) (fun c => absurd c (by decide)) (fun c => ?_)
  refine lv_iload_n hx hb dX3_remove_19 rfl (lv_at hl 0 rfl) ?_
  have hP := hP.sub (ws' := [(x, .inr (3, [.ref t, .ref z, .int (nI md), .ref rf, .ref rw, .ref pl, .ref hd, .ref ha, .ref lo, .ref ol, .ref as_])), (t, .inl (cI, 192, .inl (flT T))), (z, .inl (cI, 3, .inl (zI Z))), (rf, .inl (cI, 4, .inl (upd RF 3 (RF 3 + nI 1)))), (rw, .inl (cI, 4, .inl (R))), (pl, .inl (cI, 4, .inl (P))), (hd, .inl (cI, 4, .inl (Hd))), (ha, .inl (cI, 4, .inl (HA))), (lo, .inl (cI, 4, .inl (Lo))), (ol, .inl (cI, 4, .inl (Ol))), (as_, .inl (cI, 64, .inl (AS)))]) [0, 1, 2, 3, 4, 5, 6, 7, 8, 9, 10] rfl
  have hD := hD.sub (ws' := [(x, .inr (3, [.ref t, .ref z, .int (nI md), .ref rf, .ref rw, .ref pl, .ref hd, .ref ha, .ref lo, .ref ol, .ref as_])), (t, .inl (cI, 192, .inl (flT T))), (z, .inl (cI, 3, .inl (zI Z))), (rf, .inl (cI, 4, .inl (upd RF 3 (RF 3 + nI 1)))), (rw, .inl (cI, 4, .inl (R))), (pl, .inl (cI, 4, .inl (P))), (hd, .inl (cI, 4, .inl (Hd))), (ha, .inl (cI, 4, .inl (HA))), (lo, .inl (cI, 4, .inl (Lo))), (ol, .inl (cI, 4, .inl (Ol))), (as_, .inl (cI, 64, .inl (AS)))]) [0, 1, 2, 3, 4, 5, 6, 7, 8, 9, 10] (by decide) rfl
  exact pw_iret hx hb hr (rfl) hlocks dX3_remove_20 hS hP hD (⟨rfl, rfl⟩)
set_option maxHeartbeats 4000000 in
set_option maxRecDepth 100000 in
theorem n_remove_m (l : Launch) (D : va_G) (cI cP cR : ClassId) (x t z rf rw pl hd ha lo ol as_ md : Nat) (T : Nat → Nat → Int32) (Z : Nat → Nat) (RF R P Hd HA Lo Ol AS : Nat → Int32) (p : Nat) (hp4 : p < 4) (hR1 : ¬ R p = -1) (hO : ¬ Ol p = nI 1) (hL : Lo p = nI 1) : pw_Mp l yX3_remove wsX3_remove ({ frames := 3, cells := 0, slots := 0, locals := 65 } : Room) D cI cP cR [.ref x, .int (nI p)] ([(x, .inr (3, [.ref t, .ref z, .int (nI md), .ref rf, .ref rw, .ref pl, .ref hd, .ref ha, .ref lo, .ref ol, .ref as_])), (t, .inl (cI, 192, .inl (flT T))), (z, .inl (cI, 3, .inl (zI Z))), (rf, .inl (cI, 4, .inl (RF))), (rw, .inl (cI, 4, .inl (R))), (pl, .inl (cI, 4, .inl (P))), (hd, .inl (cI, 4, .inl (Hd))), (ha, .inl (cI, 4, .inl (HA))), (lo, .inl (cI, 4, .inl (Lo))), (ol, .inl (cI, 4, .inl (Ol))), (as_, .inl (cI, 64, .inl (AS)))]) (.int (-8)) := by
  refine pw_ofp (cc := cX3_remove) (maxL := 4) (ret := (some .int)) (own := RX3) (by decide +kernel) rfl rfl (Nat.le_of_ble_eq_true rfl) ?_
  intro p_ e_ s m bel meth cd hE hK hP hD ls hl
  obtain ⟨hx, hb, hr, hml, hown, hts, hlocks⟩ := hE
  have hNW := hK.2
  have hl : lv_has ls 4 [(0, .ref x), (1, .int (nI p))] := hl
  refine lv_iload_n hx hb dX3_remove_0 rfl (lv_at hl 1 rfl) ?_
  -- m_isPeg_t
  refine pw_cSp (As := [.int (nI p)]) (rest := []) ⟨hx, hb, hml, hown, hts⟩ (m_isPeg_t l D cI cP cR p (by omega)) (va_cwS 1 hts gX3_remove_X3_isPeg rfl rfl rfl (by decide +kernel) ⟨Nat.le_of_ble_eq_true rfl, Nat.le_of_ble_eq_true rfl⟩) hK rfl hl.1 rfl (Nat.le_of_ble_eq_true rfl) dX3_remove_1 ⟨Nat.zero_le _, Nat.zero_le _⟩ ?_
  refine lv_if_ne (tgt := 9) hx hb dX3_remove_4 (by decide) (fun c => ?_) (fun c => absurd c (by decide))
  refine lv_aload_n hx hb dX3_remove_9 rfl (lv_at hl 0 rfl) ?_
  refine lv_iload_n hx hb dX3_remove_10 rfl (lv_at hl 1 rfl) ?_
  -- m_bh_m
  refine pw_cVp (As := [.int (nI p)]) (rest := []) (wc := [(x, .inr (3, [.ref t, .ref z, .int (nI md), .ref rf, .ref rw, .ref pl, .ref hd, .ref ha, .ref lo, .ref ol, .ref as_])), (t, .inl (cI, 192, .inl (flT T))), (z, .inl (cI, 3, .inl (zI Z))), (rf, .inl (cI, 4, .inl (RF))), (rw, .inl (cI, 4, .inl (R))), (pl, .inl (cI, 4, .inl (P))), (hd, .inl (cI, 4, .inl (Hd))), (ha, .inl (cI, 4, .inl (HA))), (lo, .inl (cI, 4, .inl (Lo))), (ol, .inl (cI, 4, .inl (Ol))), (as_, .inl (cI, 64, .inl (AS)))]) ⟨hx, hb, hml, hown, hts⟩ (m_bh_m l D cI cP cR x t z rf rw pl hd ha lo ol as_ md T Z RF R P Hd HA Lo Ol AS p (by omega) hR1 hO hL) (cwV 1 hts gX3_remove_X3_barsHand rfl rfl rfl (by decide +kernel) ⟨Nat.le_of_ble_eq_true rfl, Nat.le_of_ble_eq_true rfl⟩) hK hP hD [0, 1, 2, 3, 4, 5, 6, 7, 8, 9, 10] rfl (by decide) 0 rfl rfl rfl rfl hl.1 rfl (Nat.le_of_ble_eq_true rfl) dX3_remove_11 ⟨Nat.zero_le _, Nat.zero_le _⟩ ?_
  refine lv_istore_n (lv' := [(2, .int (-8)), (0, .ref x), (1, .int (nI p))]) hx hb dX3_remove_14 rfl hl (by decide) rfl (fun ls hl => ?_)
  refine lv_iload_n hx hb dX3_remove_15 rfl (lv_at hl 0 rfl) ?_
  refine lv_if_ge (tgt := 21) hx hb dX3_remove_16 (by decide) (fun c => absurd c (by decide)) (fun c => ?_)
  refine lv_iload_n hx hb dX3_remove_19 rfl (lv_at hl 0 rfl) ?_
  exact pw_piret hx hb hr (rfl) hlocks dX3_remove_20 (rfl)
set_option maxHeartbeats 4000000 in
set_option maxRecDepth 100000 in
theorem n_remove_s (l : Launch) (D : va_G) (cI cP cR : ClassId) (x t z rf rw pl hd ha lo ol as_ md : Nat) (T : Nat → Nat → Int32) (Z : Nat → Nat) (RF R P Hd HA Lo Ol AS : Nat → Int32) (p : Nat) (hp4 : p < 4) (hR1 : ¬ R p = -1) (hO : ¬ Ol p = nI 1) (hL : ¬ Lo p = nI 1) (hH : Hd p = -1) : pw_Mm l yX3_remove wsX3_remove ({ frames := 3, cells := 0, slots := 0, locals := 65 } : Room) D cI cP cR [.ref x, .int (nI p)] ([(x, .inr (3, [.ref t, .ref z, .int (nI md), .ref rf, .ref rw, .ref pl, .ref hd, .ref ha, .ref lo, .ref ol, .ref as_])), (t, .inl (cI, 192, .inl (flT T))), (z, .inl (cI, 3, .inl (zI Z))), (rf, .inl (cI, 4, .inl (RF))), (rw, .inl (cI, 4, .inl (R))), (pl, .inl (cI, 4, .inl (P))), (hd, .inl (cI, 4, .inl (Hd))), (ha, .inl (cI, 4, .inl (HA))), (lo, .inl (cI, 4, .inl (Lo))), (ol, .inl (cI, 4, .inl (Ol))), (as_, .inl (cI, 64, .inl (AS)))]) (fun v w => v = some (.int (-7)) ∧ w = [(x, .inr (3, [.ref t, .ref z, .int (nI md), .ref rf, .ref rw, .ref pl, .ref hd, .ref ha, .ref lo, .ref ol, .ref as_])), (t, .inl (cI, 192, .inl (flT T))), (z, .inl (cI, 3, .inl (zI Z))), (rf, .inl (cI, 4, .inl (upd RF 2 (RF 2 + nI 1)))), (rw, .inl (cI, 4, .inl (R))), (pl, .inl (cI, 4, .inl (P))), (hd, .inl (cI, 4, .inl (Hd))), (ha, .inl (cI, 4, .inl (HA))), (lo, .inl (cI, 4, .inl (Lo))), (ol, .inl (cI, 4, .inl (Ol))), (as_, .inl (cI, 64, .inl (AS)))]) := by
  refine pw_ofm (cc := cX3_remove) (maxL := 4) (ret := (some .int)) (own := RX3) (by decide +kernel) rfl rfl (Nat.le_of_ble_eq_true rfl) ?_
  intro p_ e_ s m bel meth cd A hE hK hP hD hA hS ls hl
  obtain ⟨hx, hb, hr, hml, hown, hts, hlocks⟩ := hE
  have hNW := hK.2
  have hl : lv_has ls 4 [(0, .ref x), (1, .int (nI p))] := hl
  refine lv_iload_n hx hb dX3_remove_0 rfl (lv_at hl 1 rfl) ?_
  -- m_isPeg_t
  refine pw_cSp (As := [.int (nI p)]) (rest := []) ⟨hx, hb, hml, hown, hts⟩ (m_isPeg_t l D cI cP cR p (by omega)) (va_cwS 1 hts gX3_remove_X3_isPeg rfl rfl rfl (by decide +kernel) ⟨Nat.le_of_ble_eq_true rfl, Nat.le_of_ble_eq_true rfl⟩) hK rfl hl.1 rfl (Nat.le_of_ble_eq_true rfl) dX3_remove_1 ⟨Nat.zero_le _, Nat.zero_le _⟩ ?_
  refine lv_if_ne (tgt := 9) hx hb dX3_remove_4 (by decide) (fun c => ?_) (fun c => absurd c (by decide))
  refine lv_aload_n hx hb dX3_remove_9 rfl (lv_at hl 0 rfl) ?_
  refine lv_iload_n hx hb dX3_remove_10 rfl (lv_at hl 1 rfl) ?_
  -- m_bh_s
  refine pw_cVm (As := [.int (nI p)]) (rest := []) (wc := [(x, .inr (3, [.ref t, .ref z, .int (nI md), .ref rf, .ref rw, .ref pl, .ref hd, .ref ha, .ref lo, .ref ol, .ref as_])), (t, .inl (cI, 192, .inl (flT T))), (z, .inl (cI, 3, .inl (zI Z))), (rf, .inl (cI, 4, .inl (RF))), (rw, .inl (cI, 4, .inl (R))), (pl, .inl (cI, 4, .inl (P))), (hd, .inl (cI, 4, .inl (Hd))), (ha, .inl (cI, 4, .inl (HA))), (lo, .inl (cI, 4, .inl (Lo))), (ol, .inl (cI, 4, .inl (Ol))), (as_, .inl (cI, 64, .inl (AS)))]) (wr := []) ⟨hx, hb, hml, hown, hts⟩ (m_bh_s l D cI cP cR x t z rf rw pl hd ha lo ol as_ md T Z RF R P Hd HA Lo Ol AS p (by omega) hR1 hO hL hH) (cwV 1 hts gX3_remove_X3_barsHand rfl rfl rfl (by decide +kernel) ⟨Nat.le_of_ble_eq_true rfl, Nat.le_of_ble_eq_true rfl⟩) hK hP hD hS hA [0, 1, 2, 3, 4, 5, 6, 7, 8, 9, 10] [] rfl rfl (by decide) (by decide) (by decide) 0 rfl rfl rfl rfl hl.1 rfl (Nat.le_of_ble_eq_true rfl) dX3_remove_11 ⟨Nat.zero_le _, Nat.zero_le _⟩ (fun v1 w1 H locs hq hP hD hS => ?_)
  rcases hq with ⟨rfl, rfl⟩
  have hP : va_P D vwCl ([(x, .inr (3, [.ref t, .ref z, .int (nI md), .ref rf, .ref rw, .ref pl, .ref hd, .ref ha, .ref lo, .ref ol, .ref as_])), (t, .inl (cI, 192, .inl (flT T))), (z, .inl (cI, 3, .inl (zI Z))), (rf, .inl (cI, 4, .inl (upd RF 2 (RF 2 + nI 1)))), (rw, .inl (cI, 4, .inl (R))), (pl, .inl (cI, 4, .inl (P))), (hd, .inl (cI, 4, .inl (Hd))), (ha, .inl (cI, 4, .inl (HA))), (lo, .inl (cI, 4, .inl (Lo))), (ol, .inl (cI, 4, .inl (Ol))), (as_, .inl (cI, 64, .inl (AS)))]) H := hP
  have hD : va_D A ([(x, .inr (3, [.ref t, .ref z, .int (nI md), .ref rf, .ref rw, .ref pl, .ref hd, .ref ha, .ref lo, .ref ol, .ref as_])), (t, .inl (cI, 192, .inl (flT T))), (z, .inl (cI, 3, .inl (zI Z))), (rf, .inl (cI, 4, .inl (upd RF 2 (RF 2 + nI 1)))), (rw, .inl (cI, 4, .inl (R))), (pl, .inl (cI, 4, .inl (P))), (hd, .inl (cI, 4, .inl (Hd))), (ha, .inl (cI, 4, .inl (HA))), (lo, .inl (cI, 4, .inl (Lo))), (ol, .inl (cI, 4, .inl (Ol))), (as_, .inl (cI, 64, .inl (AS)))]) := hD
  refine W.eq (g2 := F0 m 14 ls [.int (-7)]) rfl ?_
  refine lv_istore_n (lv' := [(2, .int (-7)), (0, .ref x), (1, .int (nI p))]) hx hb dX3_remove_14 rfl hl (by decide) rfl (fun ls hl => ?_)
  refine lv_iload_n hx hb dX3_remove_15 rfl (lv_at hl 0 rfl) ?_
  refine lv_if_ge (tgt := 21) hx hb dX3_remove_16 (by decide) (fun c => absurd c (by decide)) (fun c => ?_)
  refine lv_iload_n hx hb dX3_remove_19 rfl (lv_at hl 0 rfl) ?_
  have hP := hP.sub (ws' := [(x, .inr (3, [.ref t, .ref z, .int (nI md), .ref rf, .ref rw, .ref pl, .ref hd, .ref ha, .ref lo, .ref ol, .ref as_])), (t, .inl (cI, 192, .inl (flT T))), (z, .inl (cI, 3, .inl (zI Z))), (rf, .inl (cI, 4, .inl (upd RF 2 (RF 2 + nI 1)))), (rw, .inl (cI, 4, .inl (R))), (pl, .inl (cI, 4, .inl (P))), (hd, .inl (cI, 4, .inl (Hd))), (ha, .inl (cI, 4, .inl (HA))), (lo, .inl (cI, 4, .inl (Lo))), (ol, .inl (cI, 4, .inl (Ol))), (as_, .inl (cI, 64, .inl (AS)))]) [0, 1, 2, 3, 4, 5, 6, 7, 8, 9, 10] rfl
  have hD := hD.sub (ws' := [(x, .inr (3, [.ref t, .ref z, .int (nI md), .ref rf, .ref rw, .ref pl, .ref hd, .ref ha, .ref lo, .ref ol, .ref as_])), (t, .inl (cI, 192, .inl (flT T))), (z, .inl (cI, 3, .inl (zI Z))), (rf, .inl (cI, 4, .inl (upd RF 2 (RF 2 + nI 1)))), (rw, .inl (cI, 4, .inl (R))), (pl, .inl (cI, 4, .inl (P))), (hd, .inl (cI, 4, .inl (Hd))), (ha, .inl (cI, 4, .inl (HA))), (lo, .inl (cI, 4, .inl (Lo))), (ol, .inl (cI, 4, .inl (Ol))), (as_, .inl (cI, 64, .inl (AS)))]) [0, 1, 2, 3, 4, 5, 6, 7, 8, 9, 10] (by decide) rfl
  exact pw_iret hx hb hr (rfl) hlocks dX3_remove_20 hS hP hD (⟨rfl, rfl⟩)
set_option maxHeartbeats 4000000 in
set_option maxRecDepth 100000 in
theorem n_remove_l (l : Launch) (D : va_G) (cI cP cR : ClassId) (x t z rf rw pl hd ha lo ol as_ md : Nat) (T : Nat → Nat → Int32) (Z : Nat → Nat) (RF R P Hd HA Lo Ol AS : Nat → Int32) (p i : Nat) (hp4 : p < 4) (hi : i < 3) (hz : Z i ≤ 60) (hR : R p = nI i) (hO : ¬ Ol p = nI 1) (hL : ¬ Lo p = nI 1) (hH : ¬ Hd p = -1) (j : Nat) (hj : j < Z i) (hA_ : HA p = nI j) (hd_ : ¬ T i j = Hd p) : pw_Mp l yX3_remove wsX3_remove ({ frames := 3, cells := 0, slots := 0, locals := 65 } : Room) D cI cP cR [.ref x, .int (nI p)] ([(x, .inr (3, [.ref t, .ref z, .int (nI md), .ref rf, .ref rw, .ref pl, .ref hd, .ref ha, .ref lo, .ref ol, .ref as_])), (t, .inl (cI, 192, .inl (flT T))), (z, .inl (cI, 3, .inl (zI Z))), (rf, .inl (cI, 4, .inl (RF))), (rw, .inl (cI, 4, .inl (R))), (pl, .inl (cI, 4, .inl (P))), (hd, .inl (cI, 4, .inl (Hd))), (ha, .inl (cI, 4, .inl (HA))), (lo, .inl (cI, 4, .inl (Lo))), (ol, .inl (cI, 4, .inl (Ol))), (as_, .inl (cI, 64, .inl (AS)))]) (.int (-8)) := by
  refine pw_ofp (cc := cX3_remove) (maxL := 4) (ret := (some .int)) (own := RX3) (by decide +kernel) rfl rfl (Nat.le_of_ble_eq_true rfl) ?_
  intro p_ e_ s m bel meth cd hE hK hP hD ls hl
  obtain ⟨hx, hb, hr, hml, hown, hts, hlocks⟩ := hE
  have hNW := hK.2
  have hl : lv_has ls 4 [(0, .ref x), (1, .int (nI p))] := hl
  refine lv_iload_n hx hb dX3_remove_0 rfl (lv_at hl 1 rfl) ?_
  -- m_isPeg_t
  refine pw_cSp (As := [.int (nI p)]) (rest := []) ⟨hx, hb, hml, hown, hts⟩ (m_isPeg_t l D cI cP cR p (by omega)) (va_cwS 1 hts gX3_remove_X3_isPeg rfl rfl rfl (by decide +kernel) ⟨Nat.le_of_ble_eq_true rfl, Nat.le_of_ble_eq_true rfl⟩) hK rfl hl.1 rfl (Nat.le_of_ble_eq_true rfl) dX3_remove_1 ⟨Nat.zero_le _, Nat.zero_le _⟩ ?_
  refine lv_if_ne (tgt := 9) hx hb dX3_remove_4 (by decide) (fun c => ?_) (fun c => absurd c (by decide))
  refine lv_aload_n hx hb dX3_remove_9 rfl (lv_at hl 0 rfl) ?_
  refine lv_iload_n hx hb dX3_remove_10 rfl (lv_at hl 1 rfl) ?_
  -- m_bh_l
  refine pw_cVp (As := [.int (nI p)]) (rest := []) (wc := [(x, .inr (3, [.ref t, .ref z, .int (nI md), .ref rf, .ref rw, .ref pl, .ref hd, .ref ha, .ref lo, .ref ol, .ref as_])), (t, .inl (cI, 192, .inl (flT T))), (z, .inl (cI, 3, .inl (zI Z))), (rf, .inl (cI, 4, .inl (RF))), (rw, .inl (cI, 4, .inl (R))), (pl, .inl (cI, 4, .inl (P))), (hd, .inl (cI, 4, .inl (Hd))), (ha, .inl (cI, 4, .inl (HA))), (lo, .inl (cI, 4, .inl (Lo))), (ol, .inl (cI, 4, .inl (Ol))), (as_, .inl (cI, 64, .inl (AS)))]) ⟨hx, hb, hml, hown, hts⟩ (m_bh_l l D cI cP cR x t z rf rw pl hd ha lo ol as_ md T Z RF R P Hd HA Lo Ol AS p i (by omega) (by omega) (by omega) hR hO hL hH j (by omega) hA_ hd_) (cwV 1 hts gX3_remove_X3_barsHand rfl rfl rfl (by decide +kernel) ⟨Nat.le_of_ble_eq_true rfl, Nat.le_of_ble_eq_true rfl⟩) hK hP hD [0, 1, 2, 3, 4, 5, 6, 7, 8, 9, 10] rfl (by decide) 0 rfl rfl rfl rfl hl.1 rfl (Nat.le_of_ble_eq_true rfl) dX3_remove_11 ⟨Nat.zero_le _, Nat.zero_le _⟩ ?_
  refine lv_istore_n (lv' := [(2, .int (-8)), (0, .ref x), (1, .int (nI p))]) hx hb dX3_remove_14 rfl hl (by decide) rfl (fun ls hl => ?_)
  refine lv_iload_n hx hb dX3_remove_15 rfl (lv_at hl 0 rfl) ?_
  refine lv_if_ge (tgt := 21) hx hb dX3_remove_16 (by decide) (fun c => absurd c (by decide)) (fun c => ?_)
  refine lv_iload_n hx hb dX3_remove_19 rfl (lv_at hl 0 rfl) ?_
  exact pw_piret hx hb hr (rfl) hlocks dX3_remove_20 (rfl)
theorem hi_X3_remove_3 : ∀ w ∈ u_ws RX3 TX3 11, w ∈ wsX3_remove := by decide +kernel
theorem hf_X3_remove_19 : Cond.fieldLink RX3 19 "PegrowModel" "rowOf" "[I" ∈ wsX3_remove := by decide +kernel
theorem hf_X3_remove_22 : Cond.fieldLink RX3 22 "PegrowModel" "placeOf" "[I" ∈ wsX3_remove := by decide +kernel
theorem hf_X3_remove_25 : Cond.fieldLink RX3 25 "PegrowModel" "hand" "[I" ∈ wsX3_remove := by decide +kernel
theorem hf_X3_remove_28 : Cond.fieldLink RX3 28 "PegrowModel" "handAt" "[I" ∈ wsX3_remove := by decide +kernel
set_option maxHeartbeats 4000000 in
set_option maxRecDepth 100000 in
theorem n_remove (l : Launch) (D : va_G) (cI cP cR : ClassId) (x t z rf rw pl hd ha lo ol as_ md : Nat) (T : Nat → Nat → Int32) (Z : Nat → Nat) (RF R P Hd HA Lo Ol AS : Nat → Int32) (p i : Nat) (hp4 : p < 4) (hi : i < 3) (hz : Z i ≤ 60) (hR : R p = nI i) (hO : ¬ Ol p = nI 1) (hL : ¬ Lo p = nI 1) (hH : ¬ Hd p = -1) (j : Nat) (hj : j < Z i) (hA_ : HA p = nI j) (hd_ : T i j = Hd p) : pw_Mm l yX3_remove wsX3_remove ({ frames := 3, cells := 0, slots := 0, locals := 65 } : Room) D cI cP cR [.ref x, .int (nI p)] ([(x, .inr (3, [.ref t, .ref z, .int (nI md), .ref rf, .ref rw, .ref pl, .ref hd, .ref ha, .ref lo, .ref ol, .ref as_])), (t, .inl (cI, 192, .inl (flT T))), (z, .inl (cI, 3, .inl (zI Z))), (rf, .inl (cI, 4, .inl (RF))), (rw, .inl (cI, 4, .inl (R))), (pl, .inl (cI, 4, .inl (P))), (hd, .inl (cI, 4, .inl (Hd))), (ha, .inl (cI, 4, .inl (HA))), (lo, .inl (cI, 4, .inl (Lo))), (ol, .inl (cI, 4, .inl (Ol))), (as_, .inl (cI, 64, .inl (AS)))]) (fun v w => v = some (.int (T i j)) ∧ w = [(x, .inr (3, [.ref t, .ref z, .int (nI md), .ref rf, .ref rw, .ref pl, .ref hd, .ref ha, .ref lo, .ref ol, .ref as_])), (t, .inl (cI, 192, .inl (flT (upR T i (clsF (T i) j (Z i)))))), (z, .inl (cI, 3, .inl (zI (updN Z i (Z i - 1))))), (rf, .inl (cI, 4, .inl (RF))), (rw, .inl (cI, 4, .inl (R))), (pl, .inl (cI, 4, .inl (upd P p (nI j)))), (hd, .inl (cI, 4, .inl (upd Hd p (-1)))), (ha, .inl (cI, 4, .inl (HA))), (lo, .inl (cI, 4, .inl (Lo))), (ol, .inl (cI, 4, .inl (agF R Ol (nI i) (nI p)))), (as_, .inl (cI, 64, .inl (AS)))]) := by
  refine pw_ofm (cc := cX3_remove) (maxL := 4) (ret := (some .int)) (own := RX3) (by decide +kernel) rfl rfl (Nat.le_of_ble_eq_true rfl) ?_
  intro p_ e_ s m bel meth cd A hE hK hP hD hA hS ls hl
  obtain ⟨hx, hb, hr, hml, hown, hts, hlocks⟩ := hE
  have hNW := hK.2
  have hl : lv_has ls 4 [(0, .ref x), (1, .int (nI p))] := hl
  refine lv_iload_n hx hb dX3_remove_0 rfl (lv_at hl 1 rfl) ?_
  -- m_isPeg_t
  refine pw_cSp (As := [.int (nI p)]) (rest := []) ⟨hx, hb, hml, hown, hts⟩ (m_isPeg_t l D cI cP cR p (by omega)) (va_cwS 1 hts gX3_remove_X3_isPeg rfl rfl rfl (by decide +kernel) ⟨Nat.le_of_ble_eq_true rfl, Nat.le_of_ble_eq_true rfl⟩) hK rfl hl.1 rfl (Nat.le_of_ble_eq_true rfl) dX3_remove_1 ⟨Nat.zero_le _, Nat.zero_le _⟩ ?_
  refine lv_if_ne (tgt := 9) hx hb dX3_remove_4 (by decide) (fun c => ?_) (fun c => absurd c (by decide))
  refine lv_aload_n hx hb dX3_remove_9 rfl (lv_at hl 0 rfl) ?_
  refine lv_iload_n hx hb dX3_remove_10 rfl (lv_at hl 1 rfl) ?_
  -- m_bh
  refine pw_cVp (As := [.int (nI p)]) (rest := []) (wc := [(x, .inr (3, [.ref t, .ref z, .int (nI md), .ref rf, .ref rw, .ref pl, .ref hd, .ref ha, .ref lo, .ref ol, .ref as_])), (t, .inl (cI, 192, .inl (flT T))), (z, .inl (cI, 3, .inl (zI Z))), (rf, .inl (cI, 4, .inl (RF))), (rw, .inl (cI, 4, .inl (R))), (pl, .inl (cI, 4, .inl (P))), (hd, .inl (cI, 4, .inl (Hd))), (ha, .inl (cI, 4, .inl (HA))), (lo, .inl (cI, 4, .inl (Lo))), (ol, .inl (cI, 4, .inl (Ol))), (as_, .inl (cI, 64, .inl (AS)))]) ⟨hx, hb, hml, hown, hts⟩ (m_bh l D cI cP cR x t z rf rw pl hd ha lo ol as_ md T Z RF R P Hd HA Lo Ol AS p i (by omega) (by omega) (by omega) hR hO hL hH j (by omega) hA_ hd_) (cwV 1 hts gX3_remove_X3_barsHand rfl rfl rfl (by decide +kernel) ⟨Nat.le_of_ble_eq_true rfl, Nat.le_of_ble_eq_true rfl⟩) hK hP hD [0, 1, 2, 3, 4, 5, 6, 7, 8, 9, 10] rfl (by decide) 0 rfl rfl rfl rfl hl.1 rfl (Nat.le_of_ble_eq_true rfl) dX3_remove_11 ⟨Nat.zero_le _, Nat.zero_le _⟩ ?_
  refine lv_istore_n (lv' := [(2, .int (nI 0)), (0, .ref x), (1, .int (nI p))]) hx hb dX3_remove_14 rfl hl (by decide) rfl (fun ls hl => ?_)
  refine lv_iload_n hx hb dX3_remove_15 rfl (lv_at hl 0 rfl) ?_
  refine lv_if_ge (tgt := 21) hx hb dX3_remove_16 (by decide) (fun c => ?_) (fun c => absurd c (by decide))
  refine lv_aload_n hx hb dX3_remove_21 rfl (lv_at hl 1 rfl) ?_
  refine lv_aload_n hx hb dX3_remove_22 rfl (lv_at hl 1 rfl) ?_
  refine va_get (D := D) (ci := 3) (v := .ref rw) (C := RX3) (T := TX3) (N := 11) hx hb hts hi_X3_remove_3 hown hK.1 hP 0 rfl rfl 4 (by decide) (hts _ hf_X3_remove_19) (fun _ h9 => h9) rfl dX3_remove_23 ?_
  refine lv_iload_n hx hb dX3_remove_26 rfl (lv_at hl 2 rfl) ?_
  refine pw_iald hx hb hK.1 hP 4 0 rfl rfl (by decide) (by omega) dX3_remove_27 ?_
  refine pw_top (y := nI i) hR ?_
  refine lv_aload_n hx hb dX3_remove_28 rfl (lv_at hl 1 rfl) ?_
  refine va_get (D := D) (ci := 3) (v := .ref ha) (C := RX3) (T := TX3) (N := 11) hx hb hts hi_X3_remove_3 hown hK.1 hP 0 rfl rfl 7 (by decide) (hts _ hf_X3_remove_28) (fun _ h9 => h9) rfl dX3_remove_29 ?_
  refine lv_iload_n hx hb dX3_remove_32 rfl (lv_at hl 2 rfl) ?_
  refine pw_iald hx hb hK.1 hP 7 0 rfl rfl (by decide) (by omega) dX3_remove_33 ?_
  refine pw_top (y := nI j) hA_ ?_
  -- m_close
  refine pw_cVm (As := [.int (nI i), .int (nI j)]) (rest := []) (wc := [(x, .inr (3, [.ref t, .ref z, .int (nI md), .ref rf, .ref rw, .ref pl, .ref hd, .ref ha, .ref lo, .ref ol, .ref as_])), (t, .inl (cI, 192, .inl (flT T))), (z, .inl (cI, 3, .inl (zI Z)))]) (wr := [(rf, .inl (cI, 4, .inl (RF))), (rw, .inl (cI, 4, .inl (R))), (pl, .inl (cI, 4, .inl (P))), (hd, .inl (cI, 4, .inl (Hd))), (ha, .inl (cI, 4, .inl (HA))), (lo, .inl (cI, 4, .inl (Lo))), (ol, .inl (cI, 4, .inl (Ol))), (as_, .inl (cI, 64, .inl (AS)))]) ⟨hx, hb, hml, hown, hts⟩ (m_close l D cI cP cR x t z rf rw pl hd ha lo ol as_ md T Z i j (by omega) (by omega) (by omega)) (cwV 2 hts gX3_remove_X3_close rfl rfl rfl (by decide +kernel) ⟨Nat.le_of_ble_eq_true rfl, Nat.le_of_ble_eq_true rfl⟩) hK hP hD hS hA [0, 1, 2] [3, 4, 5, 6, 7, 8, 9, 10] rfl rfl (by decide) (by decide) (by decide) 0 rfl rfl rfl rfl hl.1 rfl (Nat.le_of_ble_eq_true rfl) dX3_remove_34 ⟨Nat.zero_le _, Nat.zero_le _⟩ (fun v1 w1 H locs hq hP hD hS => ?_)
  rcases hq with ⟨rfl, rfl⟩
  have hP : va_P D vwCl ([(rf, .inl (cI, 4, .inl (RF))), (rw, .inl (cI, 4, .inl (R))), (pl, .inl (cI, 4, .inl (P))), (hd, .inl (cI, 4, .inl (Hd))), (ha, .inl (cI, 4, .inl (HA))), (lo, .inl (cI, 4, .inl (Lo))), (ol, .inl (cI, 4, .inl (Ol))), (as_, .inl (cI, 64, .inl (AS))), (x, .inr (3, [.ref t, .ref z, .int (nI md), .ref rf, .ref rw, .ref pl, .ref hd, .ref ha, .ref lo, .ref ol, .ref as_])), (t, .inl (cI, 192, .inl (flT (upR T i (clsF (T i) j (Z i)))))), (z, .inl (cI, 3, .inl (zI (updN Z i (Z i - 1)))))]) H := hP
  have hD : va_D A ([(rf, .inl (cI, 4, .inl (RF))), (rw, .inl (cI, 4, .inl (R))), (pl, .inl (cI, 4, .inl (P))), (hd, .inl (cI, 4, .inl (Hd))), (ha, .inl (cI, 4, .inl (HA))), (lo, .inl (cI, 4, .inl (Lo))), (ol, .inl (cI, 4, .inl (Ol))), (as_, .inl (cI, 64, .inl (AS))), (x, .inr (3, [.ref t, .ref z, .int (nI md), .ref rf, .ref rw, .ref pl, .ref hd, .ref ha, .ref lo, .ref ol, .ref as_])), (t, .inl (cI, 192, .inl (flT (upR T i (clsF (T i) j (Z i)))))), (z, .inl (cI, 3, .inl (zI (updN Z i (Z i - 1)))))]) := hD
  refine W.eq (g2 := F0 m 37 ls [.int (T i j)]) rfl ?_
  refine lv_istore_n (lv' := [(3, .int (T i j)), (2, .int (nI 0)), (0, .ref x), (1, .int (nI p))]) hx hb dX3_remove_37 rfl hl (by decide) rfl (fun ls hl => ?_)
  refine lv_aload_n hx hb dX3_remove_38 rfl (lv_at hl 2 rfl) ?_
  refine va_get (D := D) (ci := 3) (v := .ref pl) (C := RX3) (T := TX3) (N := 11) hx hb hts hi_X3_remove_3 hown hK.1 hP 8 rfl rfl 5 (by decide) (hts _ hf_X3_remove_22) (fun _ h9 => h9) rfl dX3_remove_39 ?_
  refine lv_iload_n hx hb dX3_remove_42 rfl (lv_at hl 3 rfl) ?_
  refine lv_aload_n hx hb dX3_remove_43 rfl (lv_at hl 2 rfl) ?_
  refine va_get (D := D) (ci := 3) (v := .ref ha) (C := RX3) (T := TX3) (N := 11) hx hb hts hi_X3_remove_3 hown hK.1 hP 8 rfl rfl 7 (by decide) (hts _ hf_X3_remove_28) (fun _ h9 => h9) rfl dX3_remove_44 ?_
  refine lv_iload_n hx hb dX3_remove_47 rfl (lv_at hl 3 rfl) ?_
  refine pw_iald hx hb hK.1 hP 4 0 rfl rfl (by decide) (by omega) dX3_remove_48 ?_
  refine pw_top (y := nI j) hA_ ?_
  refine pw_iast hx hb hK.1 hP hD hS 2 0 rfl rfl (by decide) (by omega) dX3_remove_49 (fun H locs hP hD hS => ?_)
  have hP : va_P D vwCl ([(rf, .inl (cI, 4, .inl (RF))), (rw, .inl (cI, 4, .inl (R))), (pl, .inl (cI, 4, .inl (upd P p (nI j)))), (hd, .inl (cI, 4, .inl (Hd))), (ha, .inl (cI, 4, .inl (HA))), (lo, .inl (cI, 4, .inl (Lo))), (ol, .inl (cI, 4, .inl (Ol))), (as_, .inl (cI, 64, .inl (AS))), (x, .inr (3, [.ref t, .ref z, .int (nI md), .ref rf, .ref rw, .ref pl, .ref hd, .ref ha, .ref lo, .ref ol, .ref as_])), (t, .inl (cI, 192, .inl (flT (upR T i (clsF (T i) j (Z i)))))), (z, .inl (cI, 3, .inl (zI (updN Z i (Z i - 1)))))]) H := hP
  have hD : va_D A ([(rf, .inl (cI, 4, .inl (RF))), (rw, .inl (cI, 4, .inl (R))), (pl, .inl (cI, 4, .inl (upd P p (nI j)))), (hd, .inl (cI, 4, .inl (Hd))), (ha, .inl (cI, 4, .inl (HA))), (lo, .inl (cI, 4, .inl (Lo))), (ol, .inl (cI, 4, .inl (Ol))), (as_, .inl (cI, 64, .inl (AS))), (x, .inr (3, [.ref t, .ref z, .int (nI md), .ref rf, .ref rw, .ref pl, .ref hd, .ref ha, .ref lo, .ref ol, .ref as_])), (t, .inl (cI, 192, .inl (flT (upR T i (clsF (T i) j (Z i)))))), (z, .inl (cI, 3, .inl (zI (updN Z i (Z i - 1)))))]) := hD
  refine lv_aload_n hx hb dX3_remove_50 rfl (lv_at hl 2 rfl) ?_
  refine va_get (D := D) (ci := 3) (v := .ref hd) (C := RX3) (T := TX3) (N := 11) hx hb hts hi_X3_remove_3 hown hK.1 hP 8 rfl rfl 6 (by decide) (hts _ hf_X3_remove_25) (fun _ h9 => h9) rfl dX3_remove_51 ?_
  refine lv_iload_n hx hb dX3_remove_54 rfl (lv_at hl 3 rfl) ?_
  refine lv_iconst (v := -1) hx hb dX3_remove_55 (by decide) ?_
  refine pw_iast hx hb hK.1 hP hD hS 3 0 rfl rfl (by decide) (by omega) dX3_remove_56 (fun H locs hP hD hS => ?_)
  have hP : va_P D vwCl ([(rf, .inl (cI, 4, .inl (RF))), (rw, .inl (cI, 4, .inl (R))), (pl, .inl (cI, 4, .inl (upd P p (nI j)))), (hd, .inl (cI, 4, .inl (upd Hd p (-1)))), (ha, .inl (cI, 4, .inl (HA))), (lo, .inl (cI, 4, .inl (Lo))), (ol, .inl (cI, 4, .inl (Ol))), (as_, .inl (cI, 64, .inl (AS))), (x, .inr (3, [.ref t, .ref z, .int (nI md), .ref rf, .ref rw, .ref pl, .ref hd, .ref ha, .ref lo, .ref ol, .ref as_])), (t, .inl (cI, 192, .inl (flT (upR T i (clsF (T i) j (Z i)))))), (z, .inl (cI, 3, .inl (zI (updN Z i (Z i - 1)))))]) H := hP
  have hD : va_D A ([(rf, .inl (cI, 4, .inl (RF))), (rw, .inl (cI, 4, .inl (R))), (pl, .inl (cI, 4, .inl (upd P p (nI j)))), (hd, .inl (cI, 4, .inl (upd Hd p (-1)))), (ha, .inl (cI, 4, .inl (HA))), (lo, .inl (cI, 4, .inl (Lo))), (ol, .inl (cI, 4, .inl (Ol))), (as_, .inl (cI, 64, .inl (AS))), (x, .inr (3, [.ref t, .ref z, .int (nI md), .ref rf, .ref rw, .ref pl, .ref hd, .ref ha, .ref lo, .ref ol, .ref as_])), (t, .inl (cI, 192, .inl (flT (upR T i (clsF (T i) j (Z i)))))), (z, .inl (cI, 3, .inl (zI (updN Z i (Z i - 1)))))]) := hD
  refine lv_aload_n hx hb dX3_remove_57 rfl (lv_at hl 2 rfl) ?_
  refine lv_aload_n hx hb dX3_remove_58 rfl (lv_at hl 2 rfl) ?_
  refine va_get (D := D) (ci := 3) (v := .ref rw) (C := RX3) (T := TX3) (N := 11) hx hb hts hi_X3_remove_3 hown hK.1 hP 8 rfl rfl 4 (by decide) (hts _ hf_X3_remove_19) (fun _ h9 => h9) rfl dX3_remove_59 ?_
  refine lv_iload_n hx hb dX3_remove_62 rfl (lv_at hl 3 rfl) ?_
  refine pw_iald hx hb hK.1 hP 1 0 rfl rfl (by decide) (by omega) dX3_remove_63 ?_
  refine pw_top (y := nI i) hR ?_
  refine lv_iload_n hx hb dX3_remove_64 rfl (lv_at hl 3 rfl) ?_
  -- m_age
  refine pw_cVm (As := [.int (nI i), .int (nI p)]) (rest := []) (wc := [(x, .inr (3, [.ref t, .ref z, .int (nI md), .ref rf, .ref rw, .ref pl, .ref hd, .ref ha, .ref lo, .ref ol, .ref as_])), (rw, .inl (cI, 4, .inl (R))), (ol, .inl (cI, 4, .inl (Ol)))]) (wr := [(rf, .inl (cI, 4, .inl (RF))), (pl, .inl (cI, 4, .inl (upd P p (nI j)))), (hd, .inl (cI, 4, .inl (upd Hd p (-1)))), (ha, .inl (cI, 4, .inl (HA))), (lo, .inl (cI, 4, .inl (Lo))), (as_, .inl (cI, 64, .inl (AS))), (t, .inl (cI, 192, .inl (flT (upR T i (clsF (T i) j (Z i)))))), (z, .inl (cI, 3, .inl (zI (updN Z i (Z i - 1)))))]) ⟨hx, hb, hml, hown, hts⟩ (m_age l D cI cP cR x t z rf rw pl hd ha lo ol as_ md R Ol i (nI p)) (cwV 2 hts gX3_remove_X3_age rfl rfl rfl (by decide +kernel) ⟨Nat.le_of_ble_eq_true rfl, Nat.le_of_ble_eq_true rfl⟩) hK hP hD hS hA [8, 1, 6] [0, 2, 3, 4, 5, 7, 9, 10] rfl rfl (by decide) (by decide) (by decide) 0 rfl rfl rfl rfl hl.1 rfl (Nat.le_of_ble_eq_true rfl) dX3_remove_65 ⟨Nat.zero_le _, Nat.zero_le _⟩ (fun v1 w1 H locs hq hP hD hS => ?_)
  rcases hq with ⟨rfl, rfl⟩
  have hP : va_P D vwCl ([(rf, .inl (cI, 4, .inl (RF))), (pl, .inl (cI, 4, .inl (upd P p (nI j)))), (hd, .inl (cI, 4, .inl (upd Hd p (-1)))), (ha, .inl (cI, 4, .inl (HA))), (lo, .inl (cI, 4, .inl (Lo))), (as_, .inl (cI, 64, .inl (AS))), (t, .inl (cI, 192, .inl (flT (upR T i (clsF (T i) j (Z i)))))), (z, .inl (cI, 3, .inl (zI (updN Z i (Z i - 1))))), (x, .inr (3, [.ref t, .ref z, .int (nI md), .ref rf, .ref rw, .ref pl, .ref hd, .ref ha, .ref lo, .ref ol, .ref as_])), (rw, .inl (cI, 4, .inl (R))), (ol, .inl (cI, 4, .inl (agF R Ol (nI i) (nI p))))]) H := hP
  have hD : va_D A ([(rf, .inl (cI, 4, .inl (RF))), (pl, .inl (cI, 4, .inl (upd P p (nI j)))), (hd, .inl (cI, 4, .inl (upd Hd p (-1)))), (ha, .inl (cI, 4, .inl (HA))), (lo, .inl (cI, 4, .inl (Lo))), (as_, .inl (cI, 64, .inl (AS))), (t, .inl (cI, 192, .inl (flT (upR T i (clsF (T i) j (Z i)))))), (z, .inl (cI, 3, .inl (zI (updN Z i (Z i - 1))))), (x, .inr (3, [.ref t, .ref z, .int (nI md), .ref rf, .ref rw, .ref pl, .ref hd, .ref ha, .ref lo, .ref ol, .ref as_])), (rw, .inl (cI, 4, .inl (R))), (ol, .inl (cI, 4, .inl (agF R Ol (nI i) (nI p))))]) := hD
  refine W.eq (g2 := F0 m 68 ls []) rfl ?_
  refine lv_iload_n hx hb dX3_remove_68 rfl (lv_at hl 0 rfl) ?_
  have hP := hP.sub (ws' := [(x, .inr (3, [.ref t, .ref z, .int (nI md), .ref rf, .ref rw, .ref pl, .ref hd, .ref ha, .ref lo, .ref ol, .ref as_])), (t, .inl (cI, 192, .inl (flT (upR T i (clsF (T i) j (Z i)))))), (z, .inl (cI, 3, .inl (zI (updN Z i (Z i - 1))))), (rf, .inl (cI, 4, .inl (RF))), (rw, .inl (cI, 4, .inl (R))), (pl, .inl (cI, 4, .inl (upd P p (nI j)))), (hd, .inl (cI, 4, .inl (upd Hd p (-1)))), (ha, .inl (cI, 4, .inl (HA))), (lo, .inl (cI, 4, .inl (Lo))), (ol, .inl (cI, 4, .inl (agF R Ol (nI i) (nI p)))), (as_, .inl (cI, 64, .inl (AS)))]) [8, 6, 7, 0, 9, 1, 2, 3, 4, 10, 5] rfl
  have hD := hD.sub (ws' := [(x, .inr (3, [.ref t, .ref z, .int (nI md), .ref rf, .ref rw, .ref pl, .ref hd, .ref ha, .ref lo, .ref ol, .ref as_])), (t, .inl (cI, 192, .inl (flT (upR T i (clsF (T i) j (Z i)))))), (z, .inl (cI, 3, .inl (zI (updN Z i (Z i - 1))))), (rf, .inl (cI, 4, .inl (RF))), (rw, .inl (cI, 4, .inl (R))), (pl, .inl (cI, 4, .inl (upd P p (nI j)))), (hd, .inl (cI, 4, .inl (upd Hd p (-1)))), (ha, .inl (cI, 4, .inl (HA))), (lo, .inl (cI, 4, .inl (Lo))), (ol, .inl (cI, 4, .inl (agF R Ol (nI i) (nI p)))), (as_, .inl (cI, 64, .inl (AS)))]) [8, 6, 7, 0, 9, 1, 2, 3, 4, 10, 5] (by decide) rfl
  exact pw_iret hx hb hr (rfl) hlocks dX3_remove_69 hS hP hD (⟨rfl, rfl⟩)
theorem hi_X3_add_3 : ∀ w ∈ u_ws RX3 TX3 11, w ∈ wsX3_add := by decide +kernel
theorem hf_X3_add_19 : Cond.fieldLink RX3 19 "PegrowModel" "rowOf" "[I" ∈ wsX3_add := by decide +kernel
set_option maxHeartbeats 4000000 in
set_option maxRecDepth 100000 in
theorem n_add_n (l : Launch) (D : va_G) (cI cP cR : ClassId) (x t z rf rw pl hd ha lo ol as_ md : Nat) (T : Nat → Nat → Int32) (Z : Nat → Nat) (RF R P Hd HA Lo Ol AS : Nat → Int32) (p : Nat) (hp4 : p < 4) (nm : Nat) (hnm : nm < 10) (hR : R p = -1) : pw_Mp l yX3_add wsX3_add ({ frames := 2, cells := 0, slots := 0, locals := 46 } : Room) D cI cP cR [.ref x, .int (nI p), .int (nI nm)] ([(x, .inr (3, [.ref t, .ref z, .int (nI md), .ref rf, .ref rw, .ref pl, .ref hd, .ref ha, .ref lo, .ref ol, .ref as_])), (t, .inl (cI, 192, .inl (flT T))), (z, .inl (cI, 3, .inl (zI Z))), (rf, .inl (cI, 4, .inl (RF))), (rw, .inl (cI, 4, .inl (R))), (pl, .inl (cI, 4, .inl (P))), (hd, .inl (cI, 4, .inl (Hd))), (ha, .inl (cI, 4, .inl (HA))), (lo, .inl (cI, 4, .inl (Lo))), (ol, .inl (cI, 4, .inl (Ol))), (as_, .inl (cI, 64, .inl (AS)))]) (.int (-2)) := by
  refine pw_ofp (cc := cX3_add) (maxL := 5) (ret := (some .int)) (own := RX3) (by decide +kernel) rfl rfl (Nat.le_of_ble_eq_true rfl) ?_
  intro p_ e_ s m bel meth cd hE hK hP hD ls hl
  obtain ⟨hx, hb, hr, hml, hown, hts, hlocks⟩ := hE
  have hNW := hK.2
  have hl : lv_has ls 5 [(0, .ref x), (1, .int (nI p)), (2, .int (nI nm))] := hl
  refine lv_iload_n hx hb dX3_add_0 rfl (lv_at hl 1 rfl) ?_
  -- m_isPeg_t
  refine pw_cSp (As := [.int (nI p)]) (rest := []) ⟨hx, hb, hml, hown, hts⟩ (m_isPeg_t l D cI cP cR p (by omega)) (va_cwS 1 hts gX3_add_X3_isPeg rfl rfl rfl (by decide +kernel) ⟨Nat.le_of_ble_eq_true rfl, Nat.le_of_ble_eq_true rfl⟩) hK rfl hl.1 rfl (Nat.le_of_ble_eq_true rfl) dX3_add_1 ⟨Nat.zero_le _, Nat.zero_le _⟩ ?_
  refine lv_if_eq (tgt := 14) hx hb dX3_add_4 (by decide) (fun c => absurd c (by decide)) (fun c => ?_)
  refine lv_iload_n hx hb dX3_add_7 rfl (lv_at hl 2 rfl) ?_
  -- m_isName_t
  refine pw_cSp (As := [.int (nI nm)]) (rest := []) ⟨hx, hb, hml, hown, hts⟩ (m_isName_t l D cI cP cR nm (by omega)) (va_cwS 1 hts gX3_add_X3_isName rfl rfl rfl (by decide +kernel) ⟨Nat.le_of_ble_eq_true rfl, Nat.le_of_ble_eq_true rfl⟩) hK rfl hl.1 rfl (Nat.le_of_ble_eq_true rfl) dX3_add_8 ⟨Nat.zero_le _, Nat.zero_le _⟩ ?_
  refine lv_if_ne (tgt := 16) hx hb dX3_add_11 (by decide) (fun c => ?_) (fun c => absurd c (by decide))
  refine lv_aload_n hx hb dX3_add_16 rfl (lv_at hl 0 rfl) ?_
  refine va_get (D := D) (ci := 3) (v := .ref rw) (C := RX3) (T := TX3) (N := 11) hx hb hts hi_X3_add_3 hown hK.1 hP 0 rfl rfl 4 (by decide) (hts _ hf_X3_add_19) (fun _ h9 => h9) rfl dX3_add_17 ?_
  refine lv_iload_n hx hb dX3_add_20 rfl (lv_at hl 1 rfl) ?_
  refine pw_iald hx hb hK.1 hP 4 0 rfl rfl (by decide) (by omega) dX3_add_21 ?_
  refine pw_top (y := -1) hR ?_
  refine lv_istore_n (lv' := [(3, .int (-1)), (0, .ref x), (1, .int (nI p)), (2, .int (nI nm))]) hx hb dX3_add_22 rfl hl (by decide) rfl (fun ls hl => ?_)
  refine lv_iload_n hx hb dX3_add_23 rfl (lv_at hl 0 rfl) ?_
  refine lv_iconst (v := -1) hx hb dX3_add_24 (by decide) ?_
  refine lv_icmp_ne (tgt := 31) hx hb dX3_add_25 (by decide) (fun c_1 => ?_) (fun c_1 => ?_)
  · exact absurd rfl c_1
  · have _h := c_1
    refine lv_bipush (v := -2) hx hb dX3_add_28 (by decide) ?_
    exact pw_piret hx hb hr (rfl) hlocks dX3_add_30 (rfl)
theorem hf_X3_add_13 : Cond.fieldLink RX3 13 "PegrowModel" "sizes" "[I" ∈ wsX3_add := by decide +kernel
set_option maxHeartbeats 4000000 in
set_option maxRecDepth 100000 in
theorem n_add_f (l : Launch) (D : va_G) (cI cP cR : ClassId) (x t z rf rw pl hd ha lo ol as_ md : Nat) (T : Nat → Nat → Int32) (Z : Nat → Nat) (RF R P Hd HA Lo Ol AS : Nat → Int32) (p i : Nat) (hp4 : p < 4) (hi : i < 3) (hz : Z i ≤ 60) (hR : R p = nI i) (nm : Nat) (hnm : nm < 10) (hf : Z i = 60) : pw_Mp l yX3_add wsX3_add ({ frames := 2, cells := 0, slots := 0, locals := 46 } : Room) D cI cP cR [.ref x, .int (nI p), .int (nI nm)] ([(x, .inr (3, [.ref t, .ref z, .int (nI md), .ref rf, .ref rw, .ref pl, .ref hd, .ref ha, .ref lo, .ref ol, .ref as_])), (t, .inl (cI, 192, .inl (flT T))), (z, .inl (cI, 3, .inl (zI Z))), (rf, .inl (cI, 4, .inl (RF))), (rw, .inl (cI, 4, .inl (R))), (pl, .inl (cI, 4, .inl (P))), (hd, .inl (cI, 4, .inl (Hd))), (ha, .inl (cI, 4, .inl (HA))), (lo, .inl (cI, 4, .inl (Lo))), (ol, .inl (cI, 4, .inl (Ol))), (as_, .inl (cI, 64, .inl (AS)))]) (.int (-3)) := by
  refine pw_ofp (cc := cX3_add) (maxL := 5) (ret := (some .int)) (own := RX3) (by decide +kernel) rfl rfl (Nat.le_of_ble_eq_true rfl) ?_
  intro p_ e_ s m bel meth cd hE hK hP hD ls hl
  obtain ⟨hx, hb, hr, hml, hown, hts, hlocks⟩ := hE
  have hNW := hK.2
  have hl : lv_has ls 5 [(0, .ref x), (1, .int (nI p)), (2, .int (nI nm))] := hl
  refine lv_iload_n hx hb dX3_add_0 rfl (lv_at hl 1 rfl) ?_
  -- m_isPeg_t
  refine pw_cSp (As := [.int (nI p)]) (rest := []) ⟨hx, hb, hml, hown, hts⟩ (m_isPeg_t l D cI cP cR p (by omega)) (va_cwS 1 hts gX3_add_X3_isPeg rfl rfl rfl (by decide +kernel) ⟨Nat.le_of_ble_eq_true rfl, Nat.le_of_ble_eq_true rfl⟩) hK rfl hl.1 rfl (Nat.le_of_ble_eq_true rfl) dX3_add_1 ⟨Nat.zero_le _, Nat.zero_le _⟩ ?_
  refine lv_if_eq (tgt := 14) hx hb dX3_add_4 (by decide) (fun c => absurd c (by decide)) (fun c => ?_)
  refine lv_iload_n hx hb dX3_add_7 rfl (lv_at hl 2 rfl) ?_
  -- m_isName_t
  refine pw_cSp (As := [.int (nI nm)]) (rest := []) ⟨hx, hb, hml, hown, hts⟩ (m_isName_t l D cI cP cR nm (by omega)) (va_cwS 1 hts gX3_add_X3_isName rfl rfl rfl (by decide +kernel) ⟨Nat.le_of_ble_eq_true rfl, Nat.le_of_ble_eq_true rfl⟩) hK rfl hl.1 rfl (Nat.le_of_ble_eq_true rfl) dX3_add_8 ⟨Nat.zero_le _, Nat.zero_le _⟩ ?_
  refine lv_if_ne (tgt := 16) hx hb dX3_add_11 (by decide) (fun c => ?_) (fun c => absurd c (by decide))
  refine lv_aload_n hx hb dX3_add_16 rfl (lv_at hl 0 rfl) ?_
  refine va_get (D := D) (ci := 3) (v := .ref rw) (C := RX3) (T := TX3) (N := 11) hx hb hts hi_X3_add_3 hown hK.1 hP 0 rfl rfl 4 (by decide) (hts _ hf_X3_add_19) (fun _ h9 => h9) rfl dX3_add_17 ?_
  refine lv_iload_n hx hb dX3_add_20 rfl (lv_at hl 1 rfl) ?_
  refine pw_iald hx hb hK.1 hP 4 0 rfl rfl (by decide) (by omega) dX3_add_21 ?_
  refine pw_top (y := nI i) hR ?_
  refine lv_istore_n (lv' := [(3, .int (nI i)), (0, .ref x), (1, .int (nI p)), (2, .int (nI nm))]) hx hb dX3_add_22 rfl hl (by decide) rfl (fun ls hl => ?_)
  refine lv_iload_n hx hb dX3_add_23 rfl (lv_at hl 0 rfl) ?_
  refine lv_iconst (v := -1) hx hb dX3_add_24 (by decide) ?_
  refine lv_icmp_ne (tgt := 31) hx hb dX3_add_25 (by decide) (fun c_1 => ?_) (fun c_1 => ?_)
  · have _h := c_1
    refine lv_aload_n hx hb dX3_add_31 rfl (lv_at hl 1 rfl) ?_
    refine va_get (D := D) (ci := 3) (v := .ref z) (C := RX3) (T := TX3) (N := 11) hx hb hts hi_X3_add_3 hown hK.1 hP 0 rfl rfl 1 (by decide) (hts _ hf_X3_add_13) (fun _ h9 => h9) rfl dX3_add_32 ?_
    refine lv_iload_n hx hb dX3_add_35 rfl (lv_at hl 0 rfl) ?_
    refine pw_iald hx hb hK.1 hP 2 0 rfl rfl (by decide) (by omega) dX3_add_36 ?_
    refine pw_top (y := nI (Z i)) rfl ?_
    refine lv_bipush (v := nI 60) hx hb dX3_add_37 (by decide) ?_
    refine pw_icmp_ne (tgt := 45) hx hb (by omega) (by omega) dX3_add_39 (by decide) (fun c_2 => ?_) (fun c_2 => ?_)
    · exact absurd hf c_2
    · have _h := c_2
      refine lv_bipush (v := -3) hx hb dX3_add_42 (by decide) ?_
      exact pw_piret hx hb hr (rfl) hlocks dX3_add_44 (rfl)
  · exact absurd c_1 (pw_nm1 (by omega))
set_option maxHeartbeats 4000000 in
set_option maxRecDepth 100000 in
theorem n_add_o (l : Launch) (D : va_G) (cI cP cR : ClassId) (x t z rf rw pl hd ha lo ol as_ md : Nat) (T : Nat → Nat → Int32) (Z : Nat → Nat) (RF R P Hd HA Lo Ol AS : Nat → Int32) (p i : Nat) (hp4 : p < 4) (hi : i < 3) (hz : Z i ≤ 60) (hR : R p = nI i) (nm : Nat) (hnm : nm < 10) (hf : Z i < 60) (hO : Ol p = nI 1) : pw_Mm l yX3_add wsX3_add ({ frames := 2, cells := 0, slots := 0, locals := 46 } : Room) D cI cP cR [.ref x, .int (nI p), .int (nI nm)] ([(x, .inr (3, [.ref t, .ref z, .int (nI md), .ref rf, .ref rw, .ref pl, .ref hd, .ref ha, .ref lo, .ref ol, .ref as_])), (t, .inl (cI, 192, .inl (flT T))), (z, .inl (cI, 3, .inl (zI Z))), (rf, .inl (cI, 4, .inl (RF))), (rw, .inl (cI, 4, .inl (R))), (pl, .inl (cI, 4, .inl (P))), (hd, .inl (cI, 4, .inl (Hd))), (ha, .inl (cI, 4, .inl (HA))), (lo, .inl (cI, 4, .inl (Lo))), (ol, .inl (cI, 4, .inl (Ol))), (as_, .inl (cI, 64, .inl (AS)))]) (fun v w => v = some (.int (-4)) ∧ w = [(x, .inr (3, [.ref t, .ref z, .int (nI md), .ref rf, .ref rw, .ref pl, .ref hd, .ref ha, .ref lo, .ref ol, .ref as_])), (t, .inl (cI, 192, .inl (flT T))), (z, .inl (cI, 3, .inl (zI Z))), (rf, .inl (cI, 4, .inl (upd RF 3 (RF 3 + nI 1)))), (rw, .inl (cI, 4, .inl (R))), (pl, .inl (cI, 4, .inl (P))), (hd, .inl (cI, 4, .inl (Hd))), (ha, .inl (cI, 4, .inl (HA))), (lo, .inl (cI, 4, .inl (Lo))), (ol, .inl (cI, 4, .inl (Ol))), (as_, .inl (cI, 64, .inl (AS)))]) := by
  refine pw_ofm (cc := cX3_add) (maxL := 5) (ret := (some .int)) (own := RX3) (by decide +kernel) rfl rfl (Nat.le_of_ble_eq_true rfl) ?_
  intro p_ e_ s m bel meth cd A hE hK hP hD hA hS ls hl
  obtain ⟨hx, hb, hr, hml, hown, hts, hlocks⟩ := hE
  have hNW := hK.2
  have hl : lv_has ls 5 [(0, .ref x), (1, .int (nI p)), (2, .int (nI nm))] := hl
  have hR1 : ¬ R p = -1 := by rw [hR]; exact pw_nm1 (by omega)
  refine lv_iload_n hx hb dX3_add_0 rfl (lv_at hl 1 rfl) ?_
  -- m_isPeg_t
  refine pw_cSp (As := [.int (nI p)]) (rest := []) ⟨hx, hb, hml, hown, hts⟩ (m_isPeg_t l D cI cP cR p (by omega)) (va_cwS 1 hts gX3_add_X3_isPeg rfl rfl rfl (by decide +kernel) ⟨Nat.le_of_ble_eq_true rfl, Nat.le_of_ble_eq_true rfl⟩) hK rfl hl.1 rfl (Nat.le_of_ble_eq_true rfl) dX3_add_1 ⟨Nat.zero_le _, Nat.zero_le _⟩ ?_
  refine lv_if_eq (tgt := 14) hx hb dX3_add_4 (by decide) (fun c => absurd c (by decide)) (fun c => ?_)
  refine lv_iload_n hx hb dX3_add_7 rfl (lv_at hl 2 rfl) ?_
  -- m_isName_t
  refine pw_cSp (As := [.int (nI nm)]) (rest := []) ⟨hx, hb, hml, hown, hts⟩ (m_isName_t l D cI cP cR nm (by omega)) (va_cwS 1 hts gX3_add_X3_isName rfl rfl rfl (by decide +kernel) ⟨Nat.le_of_ble_eq_true rfl, Nat.le_of_ble_eq_true rfl⟩) hK rfl hl.1 rfl (Nat.le_of_ble_eq_true rfl) dX3_add_8 ⟨Nat.zero_le _, Nat.zero_le _⟩ ?_
  refine lv_if_ne (tgt := 16) hx hb dX3_add_11 (by decide) (fun c => ?_) (fun c => absurd c (by decide))
  refine lv_aload_n hx hb dX3_add_16 rfl (lv_at hl 0 rfl) ?_
  refine va_get (D := D) (ci := 3) (v := .ref rw) (C := RX3) (T := TX3) (N := 11) hx hb hts hi_X3_add_3 hown hK.1 hP 0 rfl rfl 4 (by decide) (hts _ hf_X3_add_19) (fun _ h9 => h9) rfl dX3_add_17 ?_
  refine lv_iload_n hx hb dX3_add_20 rfl (lv_at hl 1 rfl) ?_
  refine pw_iald hx hb hK.1 hP 4 0 rfl rfl (by decide) (by omega) dX3_add_21 ?_
  refine pw_top (y := nI i) hR ?_
  refine lv_istore_n (lv' := [(3, .int (nI i)), (0, .ref x), (1, .int (nI p)), (2, .int (nI nm))]) hx hb dX3_add_22 rfl hl (by decide) rfl (fun ls hl => ?_)
  refine lv_iload_n hx hb dX3_add_23 rfl (lv_at hl 0 rfl) ?_
  refine lv_iconst (v := -1) hx hb dX3_add_24 (by decide) ?_
  refine lv_icmp_ne (tgt := 31) hx hb dX3_add_25 (by decide) (fun c_1 => ?_) (fun c_1 => ?_)
  · have _h := c_1
    refine lv_aload_n hx hb dX3_add_31 rfl (lv_at hl 1 rfl) ?_
    refine va_get (D := D) (ci := 3) (v := .ref z) (C := RX3) (T := TX3) (N := 11) hx hb hts hi_X3_add_3 hown hK.1 hP 0 rfl rfl 1 (by decide) (hts _ hf_X3_add_13) (fun _ h9 => h9) rfl dX3_add_32 ?_
    refine lv_iload_n hx hb dX3_add_35 rfl (lv_at hl 0 rfl) ?_
    refine pw_iald hx hb hK.1 hP 2 0 rfl rfl (by decide) (by omega) dX3_add_36 ?_
    refine pw_top (y := nI (Z i)) rfl ?_
    refine lv_bipush (v := nI 60) hx hb dX3_add_37 (by decide) ?_
    refine pw_icmp_ne (tgt := 45) hx hb (by omega) (by omega) dX3_add_39 (by decide) (fun c_2 => ?_) (fun c_2 => ?_)
    · have _h := c_2
      refine lv_aload_n hx hb dX3_add_45 rfl (lv_at hl 1 rfl) ?_
      refine lv_iload_n hx hb dX3_add_46 rfl (lv_at hl 2 rfl) ?_
      -- m_bars_o
      refine pw_cVm (As := [.int (nI p)]) (rest := []) (wc := [(x, .inr (3, [.ref t, .ref z, .int (nI md), .ref rf, .ref rw, .ref pl, .ref hd, .ref ha, .ref lo, .ref ol, .ref as_])), (rf, .inl (cI, 4, .inl (RF))), (rw, .inl (cI, 4, .inl (R))), (ol, .inl (cI, 4, .inl (Ol)))]) (wr := [(t, .inl (cI, 192, .inl (flT T))), (z, .inl (cI, 3, .inl (zI Z))), (pl, .inl (cI, 4, .inl (P))), (hd, .inl (cI, 4, .inl (Hd))), (ha, .inl (cI, 4, .inl (HA))), (lo, .inl (cI, 4, .inl (Lo))), (as_, .inl (cI, 64, .inl (AS)))]) ⟨hx, hb, hml, hown, hts⟩ (m_bars_o l D cI cP cR x t z rf rw pl hd ha lo ol as_ md RF R Ol p (by omega) hR1 hO) (cwV 1 hts gX3_add_X3_bars rfl rfl rfl (by decide +kernel) ⟨Nat.le_of_ble_eq_true rfl, Nat.le_of_ble_eq_true rfl⟩) hK hP hD hS hA [0, 3, 4, 9] [1, 2, 5, 6, 7, 8, 10] rfl rfl (by decide) (by decide) (by decide) 0 rfl rfl rfl rfl hl.1 rfl (Nat.le_of_ble_eq_true rfl) dX3_add_47 ⟨Nat.zero_le _, Nat.zero_le _⟩ (fun v1 w1 H locs hq hP hD hS => ?_)
      rcases hq with ⟨rfl, rfl⟩
      have hP : va_P D vwCl ([(t, .inl (cI, 192, .inl (flT T))), (z, .inl (cI, 3, .inl (zI Z))), (pl, .inl (cI, 4, .inl (P))), (hd, .inl (cI, 4, .inl (Hd))), (ha, .inl (cI, 4, .inl (HA))), (lo, .inl (cI, 4, .inl (Lo))), (as_, .inl (cI, 64, .inl (AS))), (x, .inr (3, [.ref t, .ref z, .int (nI md), .ref rf, .ref rw, .ref pl, .ref hd, .ref ha, .ref lo, .ref ol, .ref as_])), (rf, .inl (cI, 4, .inl (upd RF 3 (RF 3 + nI 1)))), (rw, .inl (cI, 4, .inl (R))), (ol, .inl (cI, 4, .inl (Ol)))]) H := hP
      have hD : va_D A ([(t, .inl (cI, 192, .inl (flT T))), (z, .inl (cI, 3, .inl (zI Z))), (pl, .inl (cI, 4, .inl (P))), (hd, .inl (cI, 4, .inl (Hd))), (ha, .inl (cI, 4, .inl (HA))), (lo, .inl (cI, 4, .inl (Lo))), (as_, .inl (cI, 64, .inl (AS))), (x, .inr (3, [.ref t, .ref z, .int (nI md), .ref rf, .ref rw, .ref pl, .ref hd, .ref ha, .ref lo, .ref ol, .ref as_])), (rf, .inl (cI, 4, .inl (upd RF 3 (RF 3 + nI 1)))), (rw, .inl (cI, 4, .inl (R))), (ol, .inl (cI, 4, .inl (Ol)))]) := hD
      refine W.eq (g2 := F0 m 50 ls [.int (-4)]) rfl ?_
      refine lv_istore (lv' := [(4, .int (-4)), (3, .int (nI i)), (0, .ref x), (1, .int (nI p)), (2, .int (nI nm))]) hx hb dX3_add_50 hl (by decide) rfl (fun ls hl => ?_)
      refine lv_iload hx hb dX3_add_52 (lv_at hl 0 rfl) ?_
      refine lv_if_ge (tgt := 60) hx hb dX3_add_54 (by decide) (fun c => absurd c (by decide)) (fun c => ?_)
      refine lv_iload hx hb dX3_add_57 (lv_at hl 0 rfl) ?_
      have hP := hP.sub (ws' := [(x, .inr (3, [.ref t, .ref z, .int (nI md), .ref rf, .ref rw, .ref pl, .ref hd, .ref ha, .ref lo, .ref ol, .ref as_])), (t, .inl (cI, 192, .inl (flT T))), (z, .inl (cI, 3, .inl (zI Z))), (rf, .inl (cI, 4, .inl (upd RF 3 (RF 3 + nI 1)))), (rw, .inl (cI, 4, .inl (R))), (pl, .inl (cI, 4, .inl (P))), (hd, .inl (cI, 4, .inl (Hd))), (ha, .inl (cI, 4, .inl (HA))), (lo, .inl (cI, 4, .inl (Lo))), (ol, .inl (cI, 4, .inl (Ol))), (as_, .inl (cI, 64, .inl (AS)))]) [7, 0, 1, 8, 9, 2, 3, 4, 5, 10, 6] rfl
      have hD := hD.sub (ws' := [(x, .inr (3, [.ref t, .ref z, .int (nI md), .ref rf, .ref rw, .ref pl, .ref hd, .ref ha, .ref lo, .ref ol, .ref as_])), (t, .inl (cI, 192, .inl (flT T))), (z, .inl (cI, 3, .inl (zI Z))), (rf, .inl (cI, 4, .inl (upd RF 3 (RF 3 + nI 1)))), (rw, .inl (cI, 4, .inl (R))), (pl, .inl (cI, 4, .inl (P))), (hd, .inl (cI, 4, .inl (Hd))), (ha, .inl (cI, 4, .inl (HA))), (lo, .inl (cI, 4, .inl (Lo))), (ol, .inl (cI, 4, .inl (Ol))), (as_, .inl (cI, 64, .inl (AS)))]) [7, 0, 1, 8, 9, 2, 3, 4, 5, 10, 6] (by decide) rfl
      exact pw_iret hx hb hr (rfl) hlocks dX3_add_59 hS hP hD (⟨rfl, rfl⟩)
    · exact absurd c_2 (by omega)
  · exact absurd c_1 (pw_nm1 (by omega))
theorem hf_X3_add_22 : Cond.fieldLink RX3 22 "PegrowModel" "placeOf" "[I" ∈ wsX3_add := by decide +kernel
theorem hf_X3_add_25 : Cond.fieldLink RX3 25 "PegrowModel" "hand" "[I" ∈ wsX3_add := by decide +kernel
theorem hf_X3_add_31 : Cond.fieldLink RX3 31 "PegrowModel" "isLost" "[I" ∈ wsX3_add := by decide +kernel
set_option maxHeartbeats 4000000 in
set_option maxRecDepth 100000 in
theorem n_add (l : Launch) (D : va_G) (cI cP cR : ClassId) (x t z rf rw pl hd ha lo ol as_ md : Nat) (T : Nat → Nat → Int32) (Z : Nat → Nat) (RF R P Hd HA Lo Ol AS : Nat → Int32) (p i : Nat) (hp4 : p < 4) (hi : i < 3) (hz : Z i ≤ 60) (hR : R p = nI i) (nm : Nat) (hnm : nm < 10) (hf : Z i < 60) (hO : ¬ Ol p = nI 1) (q : Nat) (hPq : P p = nI q) (hq : q ≤ Z i) : pw_Mm l yX3_add wsX3_add ({ frames := 2, cells := 0, slots := 0, locals := 46 } : Room) D cI cP cR [.ref x, .int (nI p), .int (nI nm)] ([(x, .inr (3, [.ref t, .ref z, .int (nI md), .ref rf, .ref rw, .ref pl, .ref hd, .ref ha, .ref lo, .ref ol, .ref as_])), (t, .inl (cI, 192, .inl (flT T))), (z, .inl (cI, 3, .inl (zI Z))), (rf, .inl (cI, 4, .inl (RF))), (rw, .inl (cI, 4, .inl (R))), (pl, .inl (cI, 4, .inl (P))), (hd, .inl (cI, 4, .inl (Hd))), (ha, .inl (cI, 4, .inl (HA))), (lo, .inl (cI, 4, .inl (Lo))), (ol, .inl (cI, 4, .inl (Ol))), (as_, .inl (cI, 64, .inl (AS)))]) (fun v w => v = some (.int (nI (Z i + 1))) ∧ w = [(x, .inr (3, [.ref t, .ref z, .int (nI (md + 1)), .ref rf, .ref rw, .ref pl, .ref hd, .ref ha, .ref lo, .ref ol, .ref as_])), (t, .inl (cI, 192, .inl (flT (upR T i (upd (opn (T i) q 1 (Z i)) q (nI ((md * 10) + nm))))))), (z, .inl (cI, 3, .inl (zI (updN Z i (Z i + 1))))), (rf, .inl (cI, 4, .inl (RF))), (rw, .inl (cI, 4, .inl (R))), (pl, .inl (cI, 4, .inl (upd P p (nI (q + 1))))), (hd, .inl (cI, 4, .inl (upd Hd p (-1)))), (ha, .inl (cI, 4, .inl (HA))), (lo, .inl (cI, 4, .inl (upd Lo p (nI 0)))), (ol, .inl (cI, 4, .inl (agF R Ol (nI i) (nI p)))), (as_, .inl (cI, 64, .inl (AS)))]) := by
  refine pw_ofm (cc := cX3_add) (maxL := 5) (ret := (some .int)) (own := RX3) (by decide +kernel) rfl rfl (Nat.le_of_ble_eq_true rfl) ?_
  intro p_ e_ s m bel meth cd A hE hK hP hD hA hS ls hl
  obtain ⟨hx, hb, hr, hml, hown, hts, hlocks⟩ := hE
  have hNW := hK.2
  have hl : lv_has ls 5 [(0, .ref x), (1, .int (nI p)), (2, .int (nI nm))] := hl
  have hR1 : ¬ R p = -1 := by rw [hR]; exact pw_nm1 (by omega)
  refine lv_iload_n hx hb dX3_add_0 rfl (lv_at hl 1 rfl) ?_
  -- m_isPeg_t
  refine pw_cSp (As := [.int (nI p)]) (rest := []) ⟨hx, hb, hml, hown, hts⟩ (m_isPeg_t l D cI cP cR p (by omega)) (va_cwS 1 hts gX3_add_X3_isPeg rfl rfl rfl (by decide +kernel) ⟨Nat.le_of_ble_eq_true rfl, Nat.le_of_ble_eq_true rfl⟩) hK rfl hl.1 rfl (Nat.le_of_ble_eq_true rfl) dX3_add_1 ⟨Nat.zero_le _, Nat.zero_le _⟩ ?_
  refine lv_if_eq (tgt := 14) hx hb dX3_add_4 (by decide) (fun c => absurd c (by decide)) (fun c => ?_)
  refine lv_iload_n hx hb dX3_add_7 rfl (lv_at hl 2 rfl) ?_
  -- m_isName_t
  refine pw_cSp (As := [.int (nI nm)]) (rest := []) ⟨hx, hb, hml, hown, hts⟩ (m_isName_t l D cI cP cR nm (by omega)) (va_cwS 1 hts gX3_add_X3_isName rfl rfl rfl (by decide +kernel) ⟨Nat.le_of_ble_eq_true rfl, Nat.le_of_ble_eq_true rfl⟩) hK rfl hl.1 rfl (Nat.le_of_ble_eq_true rfl) dX3_add_8 ⟨Nat.zero_le _, Nat.zero_le _⟩ ?_
  refine lv_if_ne (tgt := 16) hx hb dX3_add_11 (by decide) (fun c => ?_) (fun c => absurd c (by decide))
  refine lv_aload_n hx hb dX3_add_16 rfl (lv_at hl 0 rfl) ?_
  refine va_get (D := D) (ci := 3) (v := .ref rw) (C := RX3) (T := TX3) (N := 11) hx hb hts hi_X3_add_3 hown hK.1 hP 0 rfl rfl 4 (by decide) (hts _ hf_X3_add_19) (fun _ h9 => h9) rfl dX3_add_17 ?_
  refine lv_iload_n hx hb dX3_add_20 rfl (lv_at hl 1 rfl) ?_
  refine pw_iald hx hb hK.1 hP 4 0 rfl rfl (by decide) (by omega) dX3_add_21 ?_
  refine pw_top (y := nI i) hR ?_
  refine lv_istore_n (lv' := [(3, .int (nI i)), (0, .ref x), (1, .int (nI p)), (2, .int (nI nm))]) hx hb dX3_add_22 rfl hl (by decide) rfl (fun ls hl => ?_)
  refine lv_iload_n hx hb dX3_add_23 rfl (lv_at hl 0 rfl) ?_
  refine lv_iconst (v := -1) hx hb dX3_add_24 (by decide) ?_
  refine lv_icmp_ne (tgt := 31) hx hb dX3_add_25 (by decide) (fun c_1 => ?_) (fun c_1 => ?_)
  · have _h := c_1
    refine lv_aload_n hx hb dX3_add_31 rfl (lv_at hl 1 rfl) ?_
    refine va_get (D := D) (ci := 3) (v := .ref z) (C := RX3) (T := TX3) (N := 11) hx hb hts hi_X3_add_3 hown hK.1 hP 0 rfl rfl 1 (by decide) (hts _ hf_X3_add_13) (fun _ h9 => h9) rfl dX3_add_32 ?_
    refine lv_iload_n hx hb dX3_add_35 rfl (lv_at hl 0 rfl) ?_
    refine pw_iald hx hb hK.1 hP 2 0 rfl rfl (by decide) (by omega) dX3_add_36 ?_
    refine pw_top (y := nI (Z i)) rfl ?_
    refine lv_bipush (v := nI 60) hx hb dX3_add_37 (by decide) ?_
    refine pw_icmp_ne (tgt := 45) hx hb (by omega) (by omega) dX3_add_39 (by decide) (fun c_2 => ?_) (fun c_2 => ?_)
    · have _h := c_2
      refine lv_aload_n hx hb dX3_add_45 rfl (lv_at hl 1 rfl) ?_
      refine lv_iload_n hx hb dX3_add_46 rfl (lv_at hl 2 rfl) ?_
      -- m_bars
      refine pw_cVp (As := [.int (nI p)]) (rest := []) (wc := [(x, .inr (3, [.ref t, .ref z, .int (nI md), .ref rf, .ref rw, .ref pl, .ref hd, .ref ha, .ref lo, .ref ol, .ref as_])), (rf, .inl (cI, 4, .inl (RF))), (rw, .inl (cI, 4, .inl (R))), (ol, .inl (cI, 4, .inl (Ol)))]) ⟨hx, hb, hml, hown, hts⟩ (m_bars l D cI cP cR x t z rf rw pl hd ha lo ol as_ md RF R Ol p (by omega) hR1 hO) (cwV 1 hts gX3_add_X3_bars rfl rfl rfl (by decide +kernel) ⟨Nat.le_of_ble_eq_true rfl, Nat.le_of_ble_eq_true rfl⟩) hK hP hD [0, 3, 4, 9] rfl (by decide) 0 rfl rfl rfl rfl hl.1 rfl (Nat.le_of_ble_eq_true rfl) dX3_add_47 ⟨Nat.zero_le _, Nat.zero_le _⟩ ?_
      refine lv_istore (lv' := [(4, .int (nI 0)), (3, .int (nI i)), (0, .ref x), (1, .int (nI p)), (2, .int (nI nm))]) hx hb dX3_add_50 hl (by decide) rfl (fun ls hl => ?_)
      refine lv_iload hx hb dX3_add_52 (lv_at hl 0 rfl) ?_
      refine lv_if_ge (tgt := 60) hx hb dX3_add_54 (by decide) (fun c => ?_) (fun c => absurd c (by decide))
      refine lv_aload_n hx hb dX3_add_60 rfl (lv_at hl 2 rfl) ?_
      refine lv_iload_n hx hb dX3_add_61 rfl (lv_at hl 1 rfl) ?_
      refine lv_aload_n hx hb dX3_add_62 rfl (lv_at hl 2 rfl) ?_
      refine va_get (D := D) (ci := 3) (v := .ref pl) (C := RX3) (T := TX3) (N := 11) hx hb hts hi_X3_add_3 hown hK.1 hP 0 rfl rfl 5 (by decide) (hts _ hf_X3_add_22) (fun _ h9 => h9) rfl dX3_add_63 ?_
      refine lv_iload_n hx hb dX3_add_66 rfl (lv_at hl 3 rfl) ?_
      refine pw_iald hx hb hK.1 hP 5 0 rfl rfl (by decide) (by omega) dX3_add_67 ?_
      refine pw_top (y := nI q) hPq ?_
      refine lv_aload_n hx hb dX3_add_68 rfl (lv_at hl 2 rfl) ?_
      refine lv_iload_n hx hb dX3_add_69 rfl (lv_at hl 4 rfl) ?_
      -- m_make
      refine pw_cVm (As := [.int (nI nm)]) (rest := [.int (nI q), .int (nI i), .ref x]) (wc := [(x, .inr (3, [.ref t, .ref z, .int (nI md), .ref rf, .ref rw, .ref pl, .ref hd, .ref ha, .ref lo, .ref ol, .ref as_]))]) (wr := [(t, .inl (cI, 192, .inl (flT T))), (z, .inl (cI, 3, .inl (zI Z))), (rf, .inl (cI, 4, .inl (RF))), (rw, .inl (cI, 4, .inl (R))), (pl, .inl (cI, 4, .inl (P))), (hd, .inl (cI, 4, .inl (Hd))), (ha, .inl (cI, 4, .inl (HA))), (lo, .inl (cI, 4, .inl (Lo))), (ol, .inl (cI, 4, .inl (Ol))), (as_, .inl (cI, 64, .inl (AS)))]) ⟨hx, hb, hml, hown, hts⟩ (m_make l D cI cP cR x t z rf rw pl hd ha lo ol as_ md nm) (cwV 1 hts gX3_add_X3_make rfl rfl rfl (by decide +kernel) ⟨Nat.le_of_ble_eq_true rfl, Nat.le_of_ble_eq_true rfl⟩) hK hP hD hS hA [0] [1, 2, 3, 4, 5, 6, 7, 8, 9, 10] rfl rfl (by decide) (by decide) (by decide) 0 rfl rfl rfl rfl hl.1 rfl (Nat.le_of_ble_eq_true rfl) dX3_add_70 ⟨Nat.zero_le _, Nat.zero_le _⟩ (fun v1 w1 H locs hq hP hD hS => ?_)
      rcases hq with ⟨rfl, rfl⟩
      have hP : va_P D vwCl ([(t, .inl (cI, 192, .inl (flT T))), (z, .inl (cI, 3, .inl (zI Z))), (rf, .inl (cI, 4, .inl (RF))), (rw, .inl (cI, 4, .inl (R))), (pl, .inl (cI, 4, .inl (P))), (hd, .inl (cI, 4, .inl (Hd))), (ha, .inl (cI, 4, .inl (HA))), (lo, .inl (cI, 4, .inl (Lo))), (ol, .inl (cI, 4, .inl (Ol))), (as_, .inl (cI, 64, .inl (AS))), (x, .inr (3, [.ref t, .ref z, .int (nI (md + 1)), .ref rf, .ref rw, .ref pl, .ref hd, .ref ha, .ref lo, .ref ol, .ref as_]))]) H := hP
      have hD : va_D A ([(t, .inl (cI, 192, .inl (flT T))), (z, .inl (cI, 3, .inl (zI Z))), (rf, .inl (cI, 4, .inl (RF))), (rw, .inl (cI, 4, .inl (R))), (pl, .inl (cI, 4, .inl (P))), (hd, .inl (cI, 4, .inl (Hd))), (ha, .inl (cI, 4, .inl (HA))), (lo, .inl (cI, 4, .inl (Lo))), (ol, .inl (cI, 4, .inl (Ol))), (as_, .inl (cI, 64, .inl (AS))), (x, .inr (3, [.ref t, .ref z, .int (nI (md + 1)), .ref rf, .ref rw, .ref pl, .ref hd, .ref ha, .ref lo, .ref ol, .ref as_]))]) := hD
      refine W.eq (g2 := F0 m 73 ls [.int (nI ((md * 10) + nm)), .int (nI q), .int (nI i), .ref x]) rfl ?_
      -- m_open
      refine pw_cVm (As := [.int (nI i), .int (nI q), .int (nI ((md * 10) + nm))]) (rest := []) (wc := [(x, .inr (3, [.ref t, .ref z, .int (nI (md + 1)), .ref rf, .ref rw, .ref pl, .ref hd, .ref ha, .ref lo, .ref ol, .ref as_])), (t, .inl (cI, 192, .inl (flT T))), (z, .inl (cI, 3, .inl (zI Z)))]) (wr := [(rf, .inl (cI, 4, .inl (RF))), (rw, .inl (cI, 4, .inl (R))), (pl, .inl (cI, 4, .inl (P))), (hd, .inl (cI, 4, .inl (Hd))), (ha, .inl (cI, 4, .inl (HA))), (lo, .inl (cI, 4, .inl (Lo))), (ol, .inl (cI, 4, .inl (Ol))), (as_, .inl (cI, 64, .inl (AS)))]) ⟨hx, hb, hml, hown, hts⟩ (m_open l D cI cP cR x t z rf rw pl hd ha lo ol as_ (md + 1) T Z i q (nI ((md * 10) + nm)) (by omega) (by omega) (by omega)) (cwV 3 hts gX3_add_X3_open rfl rfl rfl (by decide +kernel) ⟨Nat.le_of_ble_eq_true rfl, Nat.le_of_ble_eq_true rfl⟩) hK hP hD hS hA [10, 0, 1] [2, 3, 4, 5, 6, 7, 8, 9] rfl rfl (by decide) (by decide) (by decide) 0 rfl rfl rfl rfl hl.1 rfl (Nat.le_of_ble_eq_true rfl) dX3_add_73 ⟨Nat.zero_le _, Nat.zero_le _⟩ (fun v1 w1 H locs hq hP hD hS => ?_)
      rcases hq with ⟨rfl, rfl⟩
      have hP : va_P D vwCl ([(rf, .inl (cI, 4, .inl (RF))), (rw, .inl (cI, 4, .inl (R))), (pl, .inl (cI, 4, .inl (P))), (hd, .inl (cI, 4, .inl (Hd))), (ha, .inl (cI, 4, .inl (HA))), (lo, .inl (cI, 4, .inl (Lo))), (ol, .inl (cI, 4, .inl (Ol))), (as_, .inl (cI, 64, .inl (AS))), (x, .inr (3, [.ref t, .ref z, .int (nI (md + 1)), .ref rf, .ref rw, .ref pl, .ref hd, .ref ha, .ref lo, .ref ol, .ref as_])), (t, .inl (cI, 192, .inl (flT (upR T i (upd (opn (T i) q 1 (Z i)) q (nI ((md * 10) + nm))))))), (z, .inl (cI, 3, .inl (zI (updN Z i (Z i + 1)))))]) H := hP
      have hD : va_D A ([(rf, .inl (cI, 4, .inl (RF))), (rw, .inl (cI, 4, .inl (R))), (pl, .inl (cI, 4, .inl (P))), (hd, .inl (cI, 4, .inl (Hd))), (ha, .inl (cI, 4, .inl (HA))), (lo, .inl (cI, 4, .inl (Lo))), (ol, .inl (cI, 4, .inl (Ol))), (as_, .inl (cI, 64, .inl (AS))), (x, .inr (3, [.ref t, .ref z, .int (nI (md + 1)), .ref rf, .ref rw, .ref pl, .ref hd, .ref ha, .ref lo, .ref ol, .ref as_])), (t, .inl (cI, 192, .inl (flT (upR T i (upd (opn (T i) q 1 (Z i)) q (nI ((md * 10) + nm))))))), (z, .inl (cI, 3, .inl (zI (updN Z i (Z i + 1)))))]) := hD
      refine W.eq (g2 := F0 m 76 ls []) rfl ?_
      refine lv_aload_n hx hb dX3_add_76 rfl (lv_at hl 2 rfl) ?_
      refine va_get (D := D) (ci := 3) (v := .ref pl) (C := RX3) (T := TX3) (N := 11) hx hb hts hi_X3_add_3 hown hK.1 hP 8 rfl rfl 5 (by decide) (hts _ hf_X3_add_22) (fun _ h9 => h9) rfl dX3_add_77 ?_
      refine lv_iload_n hx hb dX3_add_80 rfl (lv_at hl 3 rfl) ?_
      refine lv_dup2_11 hx hb dX3_add_81 rfl rfl ?_
      refine pw_iald hx hb hK.1 hP 2 0 rfl rfl (by decide) (by omega) dX3_add_82 ?_
      refine pw_top (y := nI q) hPq ?_
      refine lv_iconst (v := nI 1) hx hb dX3_add_83 (by decide) ?_
      refine pw_iadd hx hb dX3_add_84 ?_
      refine pw_iast hx hb hK.1 hP hD hS 2 0 rfl rfl (by decide) (by omega) dX3_add_85 (fun H locs hP hD hS => ?_)
      have hP : va_P D vwCl ([(rf, .inl (cI, 4, .inl (RF))), (rw, .inl (cI, 4, .inl (R))), (pl, .inl (cI, 4, .inl (upd P p (nI (q + 1))))), (hd, .inl (cI, 4, .inl (Hd))), (ha, .inl (cI, 4, .inl (HA))), (lo, .inl (cI, 4, .inl (Lo))), (ol, .inl (cI, 4, .inl (Ol))), (as_, .inl (cI, 64, .inl (AS))), (x, .inr (3, [.ref t, .ref z, .int (nI (md + 1)), .ref rf, .ref rw, .ref pl, .ref hd, .ref ha, .ref lo, .ref ol, .ref as_])), (t, .inl (cI, 192, .inl (flT (upR T i (upd (opn (T i) q 1 (Z i)) q (nI ((md * 10) + nm))))))), (z, .inl (cI, 3, .inl (zI (updN Z i (Z i + 1)))))]) H := hP
      have hD : va_D A ([(rf, .inl (cI, 4, .inl (RF))), (rw, .inl (cI, 4, .inl (R))), (pl, .inl (cI, 4, .inl (upd P p (nI (q + 1))))), (hd, .inl (cI, 4, .inl (Hd))), (ha, .inl (cI, 4, .inl (HA))), (lo, .inl (cI, 4, .inl (Lo))), (ol, .inl (cI, 4, .inl (Ol))), (as_, .inl (cI, 64, .inl (AS))), (x, .inr (3, [.ref t, .ref z, .int (nI (md + 1)), .ref rf, .ref rw, .ref pl, .ref hd, .ref ha, .ref lo, .ref ol, .ref as_])), (t, .inl (cI, 192, .inl (flT (upR T i (upd (opn (T i) q 1 (Z i)) q (nI ((md * 10) + nm))))))), (z, .inl (cI, 3, .inl (zI (updN Z i (Z i + 1)))))]) := hD
      refine lv_aload_n hx hb dX3_add_86 rfl (lv_at hl 2 rfl) ?_
      refine va_get (D := D) (ci := 3) (v := .ref hd) (C := RX3) (T := TX3) (N := 11) hx hb hts hi_X3_add_3 hown hK.1 hP 8 rfl rfl 6 (by decide) (hts _ hf_X3_add_25) (fun _ h9 => h9) rfl dX3_add_87 ?_
      refine lv_iload_n hx hb dX3_add_90 rfl (lv_at hl 3 rfl) ?_
      refine lv_iconst (v := -1) hx hb dX3_add_91 (by decide) ?_
      refine pw_iast hx hb hK.1 hP hD hS 3 0 rfl rfl (by decide) (by omega) dX3_add_92 (fun H locs hP hD hS => ?_)
      have hP : va_P D vwCl ([(rf, .inl (cI, 4, .inl (RF))), (rw, .inl (cI, 4, .inl (R))), (pl, .inl (cI, 4, .inl (upd P p (nI (q + 1))))), (hd, .inl (cI, 4, .inl (upd Hd p (-1)))), (ha, .inl (cI, 4, .inl (HA))), (lo, .inl (cI, 4, .inl (Lo))), (ol, .inl (cI, 4, .inl (Ol))), (as_, .inl (cI, 64, .inl (AS))), (x, .inr (3, [.ref t, .ref z, .int (nI (md + 1)), .ref rf, .ref rw, .ref pl, .ref hd, .ref ha, .ref lo, .ref ol, .ref as_])), (t, .inl (cI, 192, .inl (flT (upR T i (upd (opn (T i) q 1 (Z i)) q (nI ((md * 10) + nm))))))), (z, .inl (cI, 3, .inl (zI (updN Z i (Z i + 1)))))]) H := hP
      have hD : va_D A ([(rf, .inl (cI, 4, .inl (RF))), (rw, .inl (cI, 4, .inl (R))), (pl, .inl (cI, 4, .inl (upd P p (nI (q + 1))))), (hd, .inl (cI, 4, .inl (upd Hd p (-1)))), (ha, .inl (cI, 4, .inl (HA))), (lo, .inl (cI, 4, .inl (Lo))), (ol, .inl (cI, 4, .inl (Ol))), (as_, .inl (cI, 64, .inl (AS))), (x, .inr (3, [.ref t, .ref z, .int (nI (md + 1)), .ref rf, .ref rw, .ref pl, .ref hd, .ref ha, .ref lo, .ref ol, .ref as_])), (t, .inl (cI, 192, .inl (flT (upR T i (upd (opn (T i) q 1 (Z i)) q (nI ((md * 10) + nm))))))), (z, .inl (cI, 3, .inl (zI (updN Z i (Z i + 1)))))]) := hD
      refine lv_aload_n hx hb dX3_add_93 rfl (lv_at hl 2 rfl) ?_
      refine va_get (D := D) (ci := 3) (v := .ref lo) (C := RX3) (T := TX3) (N := 11) hx hb hts hi_X3_add_3 hown hK.1 hP 8 rfl rfl 8 (by decide) (hts _ hf_X3_add_31) (fun _ h9 => h9) rfl dX3_add_94 ?_
      refine lv_iload_n hx hb dX3_add_97 rfl (lv_at hl 3 rfl) ?_
      refine lv_iconst (v := nI 0) hx hb dX3_add_98 (by decide) ?_
      refine pw_iast hx hb hK.1 hP hD hS 5 0 rfl rfl (by decide) (by omega) dX3_add_99 (fun H locs hP hD hS => ?_)
      have hP : va_P D vwCl ([(rf, .inl (cI, 4, .inl (RF))), (rw, .inl (cI, 4, .inl (R))), (pl, .inl (cI, 4, .inl (upd P p (nI (q + 1))))), (hd, .inl (cI, 4, .inl (upd Hd p (-1)))), (ha, .inl (cI, 4, .inl (HA))), (lo, .inl (cI, 4, .inl (upd Lo p (nI 0)))), (ol, .inl (cI, 4, .inl (Ol))), (as_, .inl (cI, 64, .inl (AS))), (x, .inr (3, [.ref t, .ref z, .int (nI (md + 1)), .ref rf, .ref rw, .ref pl, .ref hd, .ref ha, .ref lo, .ref ol, .ref as_])), (t, .inl (cI, 192, .inl (flT (upR T i (upd (opn (T i) q 1 (Z i)) q (nI ((md * 10) + nm))))))), (z, .inl (cI, 3, .inl (zI (updN Z i (Z i + 1)))))]) H := hP
      have hD : va_D A ([(rf, .inl (cI, 4, .inl (RF))), (rw, .inl (cI, 4, .inl (R))), (pl, .inl (cI, 4, .inl (upd P p (nI (q + 1))))), (hd, .inl (cI, 4, .inl (upd Hd p (-1)))), (ha, .inl (cI, 4, .inl (HA))), (lo, .inl (cI, 4, .inl (upd Lo p (nI 0)))), (ol, .inl (cI, 4, .inl (Ol))), (as_, .inl (cI, 64, .inl (AS))), (x, .inr (3, [.ref t, .ref z, .int (nI (md + 1)), .ref rf, .ref rw, .ref pl, .ref hd, .ref ha, .ref lo, .ref ol, .ref as_])), (t, .inl (cI, 192, .inl (flT (upR T i (upd (opn (T i) q 1 (Z i)) q (nI ((md * 10) + nm))))))), (z, .inl (cI, 3, .inl (zI (updN Z i (Z i + 1)))))]) := hD
      refine lv_aload_n hx hb dX3_add_100 rfl (lv_at hl 2 rfl) ?_
      refine lv_iload_n hx hb dX3_add_101 rfl (lv_at hl 1 rfl) ?_
      refine lv_iload_n hx hb dX3_add_102 rfl (lv_at hl 3 rfl) ?_
      -- m_age
      refine pw_cVm (As := [.int (nI i), .int (nI p)]) (rest := []) (wc := [(x, .inr (3, [.ref t, .ref z, .int (nI (md + 1)), .ref rf, .ref rw, .ref pl, .ref hd, .ref ha, .ref lo, .ref ol, .ref as_])), (rw, .inl (cI, 4, .inl (R))), (ol, .inl (cI, 4, .inl (Ol)))]) (wr := [(rf, .inl (cI, 4, .inl (RF))), (pl, .inl (cI, 4, .inl (upd P p (nI (q + 1))))), (hd, .inl (cI, 4, .inl (upd Hd p (-1)))), (ha, .inl (cI, 4, .inl (HA))), (lo, .inl (cI, 4, .inl (upd Lo p (nI 0)))), (as_, .inl (cI, 64, .inl (AS))), (t, .inl (cI, 192, .inl (flT (upR T i (upd (opn (T i) q 1 (Z i)) q (nI ((md * 10) + nm))))))), (z, .inl (cI, 3, .inl (zI (updN Z i (Z i + 1)))))]) ⟨hx, hb, hml, hown, hts⟩ (m_age l D cI cP cR x t z rf rw pl hd ha lo ol as_ (md + 1) R Ol i (nI p)) (cwV 2 hts gX3_add_X3_age rfl rfl rfl (by decide +kernel) ⟨Nat.le_of_ble_eq_true rfl, Nat.le_of_ble_eq_true rfl⟩) hK hP hD hS hA [8, 1, 6] [0, 2, 3, 4, 5, 7, 9, 10] rfl rfl (by decide) (by decide) (by decide) 0 rfl rfl rfl rfl hl.1 rfl (Nat.le_of_ble_eq_true rfl) dX3_add_103 ⟨Nat.zero_le _, Nat.zero_le _⟩ (fun v1 w1 H locs hq hP hD hS => ?_)
      rcases hq with ⟨rfl, rfl⟩
      have hP : va_P D vwCl ([(rf, .inl (cI, 4, .inl (RF))), (pl, .inl (cI, 4, .inl (upd P p (nI (q + 1))))), (hd, .inl (cI, 4, .inl (upd Hd p (-1)))), (ha, .inl (cI, 4, .inl (HA))), (lo, .inl (cI, 4, .inl (upd Lo p (nI 0)))), (as_, .inl (cI, 64, .inl (AS))), (t, .inl (cI, 192, .inl (flT (upR T i (upd (opn (T i) q 1 (Z i)) q (nI ((md * 10) + nm))))))), (z, .inl (cI, 3, .inl (zI (updN Z i (Z i + 1))))), (x, .inr (3, [.ref t, .ref z, .int (nI (md + 1)), .ref rf, .ref rw, .ref pl, .ref hd, .ref ha, .ref lo, .ref ol, .ref as_])), (rw, .inl (cI, 4, .inl (R))), (ol, .inl (cI, 4, .inl (agF R Ol (nI i) (nI p))))]) H := hP
      have hD : va_D A ([(rf, .inl (cI, 4, .inl (RF))), (pl, .inl (cI, 4, .inl (upd P p (nI (q + 1))))), (hd, .inl (cI, 4, .inl (upd Hd p (-1)))), (ha, .inl (cI, 4, .inl (HA))), (lo, .inl (cI, 4, .inl (upd Lo p (nI 0)))), (as_, .inl (cI, 64, .inl (AS))), (t, .inl (cI, 192, .inl (flT (upR T i (upd (opn (T i) q 1 (Z i)) q (nI ((md * 10) + nm))))))), (z, .inl (cI, 3, .inl (zI (updN Z i (Z i + 1))))), (x, .inr (3, [.ref t, .ref z, .int (nI (md + 1)), .ref rf, .ref rw, .ref pl, .ref hd, .ref ha, .ref lo, .ref ol, .ref as_])), (rw, .inl (cI, 4, .inl (R))), (ol, .inl (cI, 4, .inl (agF R Ol (nI i) (nI p))))]) := hD
      refine W.eq (g2 := F0 m 106 ls []) rfl ?_
      refine lv_aload_n hx hb dX3_add_106 rfl (lv_at hl 2 rfl) ?_
      refine va_get (D := D) (ci := 3) (v := .ref z) (C := RX3) (T := TX3) (N := 11) hx hb hts hi_X3_add_3 hown hK.1 hP 8 rfl rfl 1 (by decide) (hts _ hf_X3_add_13) (fun _ h9 => h9) rfl dX3_add_107 ?_
      refine lv_iload_n hx hb dX3_add_110 rfl (lv_at hl 1 rfl) ?_
      refine pw_iald hx hb hK.1 hP 7 0 rfl rfl (by decide) (by omega) dX3_add_111 ?_
      refine pw_top (y := nI (Z i + 1)) (congrArg nI (updN_s _ _ _)) ?_
      have hP := hP.sub (ws' := [(x, .inr (3, [.ref t, .ref z, .int (nI (md + 1)), .ref rf, .ref rw, .ref pl, .ref hd, .ref ha, .ref lo, .ref ol, .ref as_])), (t, .inl (cI, 192, .inl (flT (upR T i (upd (opn (T i) q 1 (Z i)) q (nI ((md * 10) + nm))))))), (z, .inl (cI, 3, .inl (zI (updN Z i (Z i + 1))))), (rf, .inl (cI, 4, .inl (RF))), (rw, .inl (cI, 4, .inl (R))), (pl, .inl (cI, 4, .inl (upd P p (nI (q + 1))))), (hd, .inl (cI, 4, .inl (upd Hd p (-1)))), (ha, .inl (cI, 4, .inl (HA))), (lo, .inl (cI, 4, .inl (upd Lo p (nI 0)))), (ol, .inl (cI, 4, .inl (agF R Ol (nI i) (nI p)))), (as_, .inl (cI, 64, .inl (AS)))]) [8, 6, 7, 0, 9, 1, 2, 3, 4, 10, 5] rfl
      have hD := hD.sub (ws' := [(x, .inr (3, [.ref t, .ref z, .int (nI (md + 1)), .ref rf, .ref rw, .ref pl, .ref hd, .ref ha, .ref lo, .ref ol, .ref as_])), (t, .inl (cI, 192, .inl (flT (upR T i (upd (opn (T i) q 1 (Z i)) q (nI ((md * 10) + nm))))))), (z, .inl (cI, 3, .inl (zI (updN Z i (Z i + 1))))), (rf, .inl (cI, 4, .inl (RF))), (rw, .inl (cI, 4, .inl (R))), (pl, .inl (cI, 4, .inl (upd P p (nI (q + 1))))), (hd, .inl (cI, 4, .inl (upd Hd p (-1)))), (ha, .inl (cI, 4, .inl (HA))), (lo, .inl (cI, 4, .inl (upd Lo p (nI 0)))), (ol, .inl (cI, 4, .inl (agF R Ol (nI i) (nI p)))), (as_, .inl (cI, 64, .inl (AS)))]) [8, 6, 7, 0, 9, 1, 2, 3, 4, 10, 5] (by decide) rfl
      exact pw_iret hx hb hr (rfl) hlocks dX3_add_112 hS hP hD (⟨rfl, rfl⟩)
    · exact absurd c_2 (by omega)
  · exact absurd c_1 (pw_nm1 (by omega))
set_option maxHeartbeats 4000000 in
set_option maxRecDepth 100000 in
theorem n_old_x (l : Launch) (D : va_G) (cI cP cR : ClassId) (x t z rf rw pl hd ha lo ol as_ md : Nat) (T : Nat → Nat → Int32) (Z : Nat → Nat) (RF R P Hd HA Lo Ol AS : Nat → Int32) (peg : Int32) (hx_peg : ¬ (0 ≤ peg ∧ peg < nI 4)) : pw_Mp l yX3_old wsX3_old ({ frames := 2, cells := 0, slots := 0, locals := 42 } : Room) D cI cP cR [.ref x, .int (peg)] ([(x, .inr (3, [.ref t, .ref z, .int (nI md), .ref rf, .ref rw, .ref pl, .ref hd, .ref ha, .ref lo, .ref ol, .ref as_])), (t, .inl (cI, 192, .inl (flT T))), (z, .inl (cI, 3, .inl (zI Z))), (rf, .inl (cI, 4, .inl (RF))), (rw, .inl (cI, 4, .inl (R))), (pl, .inl (cI, 4, .inl (P))), (hd, .inl (cI, 4, .inl (Hd))), (ha, .inl (cI, 4, .inl (HA))), (lo, .inl (cI, 4, .inl (Lo))), (ol, .inl (cI, 4, .inl (Ol))), (as_, .inl (cI, 64, .inl (AS)))]) (.int (-1)) := by
  refine pw_ofp (cc := cX3_old) (maxL := 2) (ret := (some .int)) (own := RX3) (by decide +kernel) rfl rfl (Nat.le_of_ble_eq_true rfl) ?_
  intro p_ e_ s m bel meth cd hE hK hP hD ls hl
  obtain ⟨hx, hb, hr, hml, hown, hts, hlocks⟩ := hE
  have hNW := hK.2
  have hl : lv_has ls 2 [(0, .ref x), (1, .int (peg))] := hl
  refine lv_iload_n hx hb dX3_old_0 rfl (lv_at hl 1 rfl) ?_
  -- m_isPeg_f
  refine pw_cSp (As := [.int (peg)]) (rest := []) ⟨hx, hb, hml, hown, hts⟩ (m_isPeg_f l D cI cP cR peg hx_peg) (va_cwS 1 hts gX3_old_X3_isPeg rfl rfl rfl (by decide +kernel) ⟨Nat.le_of_ble_eq_true rfl, Nat.le_of_ble_eq_true rfl⟩) hK rfl hl.1 rfl (Nat.le_of_ble_eq_true rfl) dX3_old_1 ⟨Nat.zero_le _, Nat.zero_le _⟩ ?_
  refine lv_if_ne (tgt := 9) hx hb dX3_old_4 (by decide) (fun c => absurd c (by decide)) (fun c => ?_)
  refine lv_iconst (v := -1) hx hb dX3_old_7 (by decide) ?_
  exact pw_piret hx hb hr (rfl) hlocks dX3_old_8 (rfl)
theorem hi_X3_old_3 : ∀ w ∈ u_ws RX3 TX3 11, w ∈ wsX3_old := by decide +kernel
theorem hf_X3_old_19 : Cond.fieldLink RX3 19 "PegrowModel" "rowOf" "[I" ∈ wsX3_old := by decide +kernel
set_option maxHeartbeats 4000000 in
set_option maxRecDepth 100000 in
theorem n_old_n (l : Launch) (D : va_G) (cI cP cR : ClassId) (x t z rf rw pl hd ha lo ol as_ md : Nat) (T : Nat → Nat → Int32) (Z : Nat → Nat) (RF R P Hd HA Lo Ol AS : Nat → Int32) (p : Nat) (hp4 : p < 4) (hR : R p = -1) : pw_Mp l yX3_old wsX3_old ({ frames := 2, cells := 0, slots := 0, locals := 42 } : Room) D cI cP cR [.ref x, .int (nI p)] ([(x, .inr (3, [.ref t, .ref z, .int (nI md), .ref rf, .ref rw, .ref pl, .ref hd, .ref ha, .ref lo, .ref ol, .ref as_])), (t, .inl (cI, 192, .inl (flT T))), (z, .inl (cI, 3, .inl (zI Z))), (rf, .inl (cI, 4, .inl (RF))), (rw, .inl (cI, 4, .inl (R))), (pl, .inl (cI, 4, .inl (P))), (hd, .inl (cI, 4, .inl (Hd))), (ha, .inl (cI, 4, .inl (HA))), (lo, .inl (cI, 4, .inl (Lo))), (ol, .inl (cI, 4, .inl (Ol))), (as_, .inl (cI, 64, .inl (AS)))]) (.int (-2)) := by
  refine pw_ofp (cc := cX3_old) (maxL := 2) (ret := (some .int)) (own := RX3) (by decide +kernel) rfl rfl (Nat.le_of_ble_eq_true rfl) ?_
  intro p_ e_ s m bel meth cd hE hK hP hD ls hl
  obtain ⟨hx, hb, hr, hml, hown, hts, hlocks⟩ := hE
  have hNW := hK.2
  have hl : lv_has ls 2 [(0, .ref x), (1, .int (nI p))] := hl
  refine lv_iload_n hx hb dX3_old_0 rfl (lv_at hl 1 rfl) ?_
  -- m_isPeg_t
  refine pw_cSp (As := [.int (nI p)]) (rest := []) ⟨hx, hb, hml, hown, hts⟩ (m_isPeg_t l D cI cP cR p (by omega)) (va_cwS 1 hts gX3_old_X3_isPeg rfl rfl rfl (by decide +kernel) ⟨Nat.le_of_ble_eq_true rfl, Nat.le_of_ble_eq_true rfl⟩) hK rfl hl.1 rfl (Nat.le_of_ble_eq_true rfl) dX3_old_1 ⟨Nat.zero_le _, Nat.zero_le _⟩ ?_
  refine lv_if_ne (tgt := 9) hx hb dX3_old_4 (by decide) (fun c => ?_) (fun c => absurd c (by decide))
  refine lv_aload_n hx hb dX3_old_9 rfl (lv_at hl 0 rfl) ?_
  refine va_get (D := D) (ci := 3) (v := .ref rw) (C := RX3) (T := TX3) (N := 11) hx hb hts hi_X3_old_3 hown hK.1 hP 0 rfl rfl 4 (by decide) (hts _ hf_X3_old_19) (fun _ h9 => h9) rfl dX3_old_10 ?_
  refine lv_iload_n hx hb dX3_old_13 rfl (lv_at hl 1 rfl) ?_
  refine pw_iald hx hb hK.1 hP 4 0 rfl rfl (by decide) (by omega) dX3_old_14 ?_
  refine lv_iconst (v := -1) hx hb dX3_old_15 (by decide) ?_
  refine lv_icmp_ne (tgt := 24) hx hb dX3_old_16 (by decide) (fun c_1 => ?_) (fun c_1 => ?_)
  · exact absurd hR c_1
  · have _h := c_1
    refine lv_bipush (v := -2) hx hb dX3_old_19 (by decide) ?_
    refine lv_goto (tgt := 30) hx hb dX3_old_21 (by decide) ?_
    exact pw_piret hx hb hr (rfl) hlocks dX3_old_30 (rfl)
theorem hf_X3_old_34 : Cond.fieldLink RX3 34 "PegrowModel" "isOld" "[I" ∈ wsX3_old := by decide +kernel
set_option maxHeartbeats 4000000 in
set_option maxRecDepth 100000 in
theorem n_old (l : Launch) (D : va_G) (cI cP cR : ClassId) (x t z rf rw pl hd ha lo ol as_ md : Nat) (T : Nat → Nat → Int32) (Z : Nat → Nat) (RF R P Hd HA Lo Ol AS : Nat → Int32) (p : Nat) (hp4 : p < 4) (hR1 : ¬ R p = -1) : pw_Mp l yX3_old wsX3_old ({ frames := 2, cells := 0, slots := 0, locals := 42 } : Room) D cI cP cR [.ref x, .int (nI p)] ([(x, .inr (3, [.ref t, .ref z, .int (nI md), .ref rf, .ref rw, .ref pl, .ref hd, .ref ha, .ref lo, .ref ol, .ref as_])), (t, .inl (cI, 192, .inl (flT T))), (z, .inl (cI, 3, .inl (zI Z))), (rf, .inl (cI, 4, .inl (RF))), (rw, .inl (cI, 4, .inl (R))), (pl, .inl (cI, 4, .inl (P))), (hd, .inl (cI, 4, .inl (Hd))), (ha, .inl (cI, 4, .inl (HA))), (lo, .inl (cI, 4, .inl (Lo))), (ol, .inl (cI, 4, .inl (Ol))), (as_, .inl (cI, 64, .inl (AS)))]) (.int (Ol p)) := by
  refine pw_ofp (cc := cX3_old) (maxL := 2) (ret := (some .int)) (own := RX3) (by decide +kernel) rfl rfl (Nat.le_of_ble_eq_true rfl) ?_
  intro p_ e_ s m bel meth cd hE hK hP hD ls hl
  obtain ⟨hx, hb, hr, hml, hown, hts, hlocks⟩ := hE
  have hNW := hK.2
  have hl : lv_has ls 2 [(0, .ref x), (1, .int (nI p))] := hl
  refine lv_iload_n hx hb dX3_old_0 rfl (lv_at hl 1 rfl) ?_
  -- m_isPeg_t
  refine pw_cSp (As := [.int (nI p)]) (rest := []) ⟨hx, hb, hml, hown, hts⟩ (m_isPeg_t l D cI cP cR p (by omega)) (va_cwS 1 hts gX3_old_X3_isPeg rfl rfl rfl (by decide +kernel) ⟨Nat.le_of_ble_eq_true rfl, Nat.le_of_ble_eq_true rfl⟩) hK rfl hl.1 rfl (Nat.le_of_ble_eq_true rfl) dX3_old_1 ⟨Nat.zero_le _, Nat.zero_le _⟩ ?_
  refine lv_if_ne (tgt := 9) hx hb dX3_old_4 (by decide) (fun c => ?_) (fun c => absurd c (by decide))
  refine lv_aload_n hx hb dX3_old_9 rfl (lv_at hl 0 rfl) ?_
  refine va_get (D := D) (ci := 3) (v := .ref rw) (C := RX3) (T := TX3) (N := 11) hx hb hts hi_X3_old_3 hown hK.1 hP 0 rfl rfl 4 (by decide) (hts _ hf_X3_old_19) (fun _ h9 => h9) rfl dX3_old_10 ?_
  refine lv_iload_n hx hb dX3_old_13 rfl (lv_at hl 1 rfl) ?_
  refine pw_iald hx hb hK.1 hP 4 0 rfl rfl (by decide) (by omega) dX3_old_14 ?_
  refine lv_iconst (v := -1) hx hb dX3_old_15 (by decide) ?_
  refine lv_icmp_ne (tgt := 24) hx hb dX3_old_16 (by decide) (fun c_1 => ?_) (fun c_1 => ?_)
  · have _h := c_1
    refine lv_aload_n hx hb dX3_old_24 rfl (lv_at hl 0 rfl) ?_
    refine va_get (D := D) (ci := 3) (v := .ref ol) (C := RX3) (T := TX3) (N := 11) hx hb hts hi_X3_old_3 hown hK.1 hP 0 rfl rfl 9 (by decide) (hts _ hf_X3_old_34) (fun _ h9 => h9) rfl dX3_old_25 ?_
    refine lv_iload_n hx hb dX3_old_28 rfl (lv_at hl 1 rfl) ?_
    refine pw_iald hx hb hK.1 hP 9 0 rfl rfl (by decide) (by omega) dX3_old_29 ?_
    exact pw_piret hx hb hr (rfl) hlocks dX3_old_30 (rfl)
  · exact absurd c_1 hR1
theorem hi_X3_standing_3 : ∀ w ∈ u_ws RX3 TX3 11, w ∈ wsX3_standing := by decide +kernel
theorem hf_X3_standing_19 : Cond.fieldLink RX3 19 "PegrowModel" "rowOf" "[I" ∈ wsX3_standing := by decide +kernel
set_option maxHeartbeats 4000000 in
set_option maxRecDepth 100000 in
theorem m_standing (l : Launch) (D : va_G) (cI cP cR : ClassId) (x t z rf rw pl hd ha lo ol as_ md : Nat) (R : Nat → Int32) : pw_Mp l yX3_standing wsX3_standing ({ frames := 0, cells := 0, slots := 0, locals := 0 } : Room) D cI cP cR [.ref x] ([(x, .inr (3, [.ref t, .ref z, .int (nI md), .ref rf, .ref rw, .ref pl, .ref hd, .ref ha, .ref lo, .ref ol, .ref as_])), (rw, .inl (cI, 4, .inl (R)))]) (.int (nI (0 + (if R 0 = -1 then 0 else 1) + (if R 1 = -1 then 0 else 1) + (if R 2 = -1 then 0 else 1) + (if R 3 = -1 then 0 else 1)))) := by
  refine pw_ofp (cc := cX3_standing) (maxL := 3) (ret := (some .int)) (own := RX3) (by decide +kernel) rfl rfl (Nat.le_of_ble_eq_true rfl) ?_
  intro p_ e_ s m bel meth cd hE hK hP hD ls hl
  obtain ⟨hx, hb, hr, hml, hown, hts, hlocks⟩ := hE
  have hNW := hK.2
  have hl : lv_has ls 3 [(0, .ref x)] := hl
  refine lv_iconst (v := nI 0) hx hb dX3_standing_0 (by decide) ?_
  refine lv_istore_n (lv' := [(1, .int (nI 0)), (0, .ref x)]) hx hb dX3_standing_1 rfl hl (by decide) rfl (fun ls hl => ?_)
  refine lv_iconst (v := nI 0) hx hb dX3_standing_2 (by decide) ?_
  refine lv_istore_n (lv' := [(2, .int (nI 0)), (1, .int (nI 0)), (0, .ref x)]) hx hb dX3_standing_3 rfl hl (by decide) rfl (fun ls hl => ?_)
  refine lv_iload_n hx hb dX3_standing_4 rfl (lv_at hl 0 rfl) ?_
  refine lv_iconst (v := nI 4) hx hb dX3_standing_5 (by decide) ?_
  refine lv_icmp_ge (tgt := 33) hx hb dX3_standing_6 (by decide) (fun c => absurd c (by decide)) (fun c => ?_)
  refine lv_iload_n hx hb dX3_standing_9 rfl (lv_at hl 1 rfl) ?_
  refine lv_aload_n hx hb dX3_standing_10 rfl (lv_at hl 2 rfl) ?_
  refine va_get (D := D) (ci := 3) (v := .ref rw) (C := RX3) (T := TX3) (N := 11) hx hb hts hi_X3_standing_3 hown hK.1 hP 0 rfl rfl 4 (by decide) (hts _ hf_X3_standing_19) (fun _ h9 => h9) rfl dX3_standing_11 ?_
  refine lv_iload_n hx hb dX3_standing_14 rfl (lv_at hl 0 rfl) ?_
  refine pw_iald hx hb hK.1 hP 1 0 rfl rfl (by decide) (by omega) dX3_standing_15 ?_
  refine lv_iconst (v := -1) hx hb dX3_standing_16 (by decide) ?_
  refine lv_icmp_ne (tgt := 24) hx hb dX3_standing_17 (by decide) (fun c_1 => ?_) (fun c_1 => ?_)
  · have _h := c_1
    refine lv_iconst (v := nI 1) hx hb dX3_standing_24 (by decide) ?_
    refine pw_iadd hx hb dX3_standing_25 ?_
    refine lv_istore_n (lv' := [(1, .int (nI (0 + 1))), (2, .int (nI 0)), (0, .ref x)]) hx hb dX3_standing_26 rfl hl (by decide) rfl (fun ls hl => ?_)
    refine lv_iinc (v := nI 1) (lv' := [(2, .int (nI 1)), (1, .int (nI (0 + 1))), (0, .ref x)]) hx hb dX3_standing_27 hl (k := 1) rfl (pw_inc _ 1) (by decide) rfl (fun ls hl => ?_)
    refine lv_goto (tgt := 4) hx hb dX3_standing_30 (by decide) ?_
    refine lv_iload_n hx hb dX3_standing_4 rfl (lv_at hl 0 rfl) ?_
    refine lv_iconst (v := nI 4) hx hb dX3_standing_5 (by decide) ?_
    refine lv_icmp_ge (tgt := 33) hx hb dX3_standing_6 (by decide) (fun c => absurd c (by decide)) (fun c => ?_)
    refine lv_iload_n hx hb dX3_standing_9 rfl (lv_at hl 1 rfl) ?_
    refine lv_aload_n hx hb dX3_standing_10 rfl (lv_at hl 2 rfl) ?_
    refine va_get (D := D) (ci := 3) (v := .ref rw) (C := RX3) (T := TX3) (N := 11) hx hb hts hi_X3_standing_3 hown hK.1 hP 0 rfl rfl 4 (by decide) (hts _ hf_X3_standing_19) (fun _ h9 => h9) rfl dX3_standing_11 ?_
    refine lv_iload_n hx hb dX3_standing_14 rfl (lv_at hl 0 rfl) ?_
    refine pw_iald hx hb hK.1 hP 1 0 rfl rfl (by decide) (by omega) dX3_standing_15 ?_
    refine lv_iconst (v := -1) hx hb dX3_standing_16 (by decide) ?_
    refine lv_icmp_ne (tgt := 24) hx hb dX3_standing_17 (by decide) (fun c_2 => ?_) (fun c_2 => ?_)
    · have _h := c_2
      refine lv_iconst (v := nI 1) hx hb dX3_standing_24 (by decide) ?_
      refine pw_iadd hx hb dX3_standing_25 ?_
      refine lv_istore_n (lv' := [(1, .int (nI ((0 + 1) + 1))), (2, .int (nI 1)), (0, .ref x)]) hx hb dX3_standing_26 rfl hl (by decide) rfl (fun ls hl => ?_)
      refine lv_iinc (v := nI 2) (lv' := [(2, .int (nI 2)), (1, .int (nI ((0 + 1) + 1))), (0, .ref x)]) hx hb dX3_standing_27 hl (k := 1) rfl (pw_inc _ 1) (by decide) rfl (fun ls hl => ?_)
      refine lv_goto (tgt := 4) hx hb dX3_standing_30 (by decide) ?_
      refine lv_iload_n hx hb dX3_standing_4 rfl (lv_at hl 0 rfl) ?_
      refine lv_iconst (v := nI 4) hx hb dX3_standing_5 (by decide) ?_
      refine lv_icmp_ge (tgt := 33) hx hb dX3_standing_6 (by decide) (fun c => absurd c (by decide)) (fun c => ?_)
      refine lv_iload_n hx hb dX3_standing_9 rfl (lv_at hl 1 rfl) ?_
      refine lv_aload_n hx hb dX3_standing_10 rfl (lv_at hl 2 rfl) ?_
      refine va_get (D := D) (ci := 3) (v := .ref rw) (C := RX3) (T := TX3) (N := 11) hx hb hts hi_X3_standing_3 hown hK.1 hP 0 rfl rfl 4 (by decide) (hts _ hf_X3_standing_19) (fun _ h9 => h9) rfl dX3_standing_11 ?_
      refine lv_iload_n hx hb dX3_standing_14 rfl (lv_at hl 0 rfl) ?_
      refine pw_iald hx hb hK.1 hP 1 0 rfl rfl (by decide) (by omega) dX3_standing_15 ?_
      refine lv_iconst (v := -1) hx hb dX3_standing_16 (by decide) ?_
      refine lv_icmp_ne (tgt := 24) hx hb dX3_standing_17 (by decide) (fun c_3 => ?_) (fun c_3 => ?_)
      · have _h := c_3
        refine lv_iconst (v := nI 1) hx hb dX3_standing_24 (by decide) ?_
        refine pw_iadd hx hb dX3_standing_25 ?_
        refine lv_istore_n (lv' := [(1, .int (nI (((0 + 1) + 1) + 1))), (2, .int (nI 2)), (0, .ref x)]) hx hb dX3_standing_26 rfl hl (by decide) rfl (fun ls hl => ?_)
        refine lv_iinc (v := nI 3) (lv' := [(2, .int (nI 3)), (1, .int (nI (((0 + 1) + 1) + 1))), (0, .ref x)]) hx hb dX3_standing_27 hl (k := 1) rfl (pw_inc _ 1) (by decide) rfl (fun ls hl => ?_)
        refine lv_goto (tgt := 4) hx hb dX3_standing_30 (by decide) ?_
        refine lv_iload_n hx hb dX3_standing_4 rfl (lv_at hl 0 rfl) ?_
        refine lv_iconst (v := nI 4) hx hb dX3_standing_5 (by decide) ?_
        refine lv_icmp_ge (tgt := 33) hx hb dX3_standing_6 (by decide) (fun c => absurd c (by decide)) (fun c => ?_)
        refine lv_iload_n hx hb dX3_standing_9 rfl (lv_at hl 1 rfl) ?_
        refine lv_aload_n hx hb dX3_standing_10 rfl (lv_at hl 2 rfl) ?_
        refine va_get (D := D) (ci := 3) (v := .ref rw) (C := RX3) (T := TX3) (N := 11) hx hb hts hi_X3_standing_3 hown hK.1 hP 0 rfl rfl 4 (by decide) (hts _ hf_X3_standing_19) (fun _ h9 => h9) rfl dX3_standing_11 ?_
        refine lv_iload_n hx hb dX3_standing_14 rfl (lv_at hl 0 rfl) ?_
        refine pw_iald hx hb hK.1 hP 1 0 rfl rfl (by decide) (by omega) dX3_standing_15 ?_
        refine lv_iconst (v := -1) hx hb dX3_standing_16 (by decide) ?_
        refine lv_icmp_ne (tgt := 24) hx hb dX3_standing_17 (by decide) (fun c_4 => ?_) (fun c_4 => ?_)
        · have _h := c_4
          refine lv_iconst (v := nI 1) hx hb dX3_standing_24 (by decide) ?_
          refine pw_iadd hx hb dX3_standing_25 ?_
          refine lv_istore_n (lv' := [(1, .int (nI ((((0 + 1) + 1) + 1) + 1))), (2, .int (nI 3)), (0, .ref x)]) hx hb dX3_standing_26 rfl hl (by decide) rfl (fun ls hl => ?_)
          refine lv_iinc (v := nI 4) (lv' := [(2, .int (nI 4)), (1, .int (nI ((((0 + 1) + 1) + 1) + 1))), (0, .ref x)]) hx hb dX3_standing_27 hl (k := 1) rfl (pw_inc _ 1) (by decide) rfl (fun ls hl => ?_)
          refine lv_goto (tgt := 4) hx hb dX3_standing_30 (by decide) ?_
          refine lv_iload_n hx hb dX3_standing_4 rfl (lv_at hl 0 rfl) ?_
          refine lv_iconst (v := nI 4) hx hb dX3_standing_5 (by decide) ?_
          refine lv_icmp_ge (tgt := 33) hx hb dX3_standing_6 (by decide) (fun c => ?_) (fun c => absurd c (by decide))
          refine lv_iload_n hx hb dX3_standing_33 rfl (lv_at hl 1 rfl) ?_
          exact pw_piret hx hb hr (rfl) hlocks dX3_standing_34 (by rw [if_neg c_1, if_neg c_2, if_neg c_3, if_neg c_4])
        · have _h := c_4
          refine lv_iconst (v := nI 0) hx hb dX3_standing_20 (by decide) ?_
          refine lv_goto (tgt := 25) hx hb dX3_standing_21 (by decide) ?_
          refine pw_iadd hx hb dX3_standing_25 ?_
          refine lv_istore_n (lv' := [(1, .int (nI ((((0 + 1) + 1) + 1) + 0))), (2, .int (nI 3)), (0, .ref x)]) hx hb dX3_standing_26 rfl hl (by decide) rfl (fun ls hl => ?_)
          refine lv_iinc (v := nI 4) (lv' := [(2, .int (nI 4)), (1, .int (nI ((((0 + 1) + 1) + 1) + 0))), (0, .ref x)]) hx hb dX3_standing_27 hl (k := 1) rfl (pw_inc _ 1) (by decide) rfl (fun ls hl => ?_)
          refine lv_goto (tgt := 4) hx hb dX3_standing_30 (by decide) ?_
          refine lv_iload_n hx hb dX3_standing_4 rfl (lv_at hl 0 rfl) ?_
          refine lv_iconst (v := nI 4) hx hb dX3_standing_5 (by decide) ?_
          refine lv_icmp_ge (tgt := 33) hx hb dX3_standing_6 (by decide) (fun c => ?_) (fun c => absurd c (by decide))
          refine lv_iload_n hx hb dX3_standing_33 rfl (lv_at hl 1 rfl) ?_
          exact pw_piret hx hb hr (rfl) hlocks dX3_standing_34 (by rw [if_neg c_1, if_neg c_2, if_neg c_3, if_pos c_4])
      · have _h := c_3
        refine lv_iconst (v := nI 0) hx hb dX3_standing_20 (by decide) ?_
        refine lv_goto (tgt := 25) hx hb dX3_standing_21 (by decide) ?_
        refine pw_iadd hx hb dX3_standing_25 ?_
        refine lv_istore_n (lv' := [(1, .int (nI (((0 + 1) + 1) + 0))), (2, .int (nI 2)), (0, .ref x)]) hx hb dX3_standing_26 rfl hl (by decide) rfl (fun ls hl => ?_)
        refine lv_iinc (v := nI 3) (lv' := [(2, .int (nI 3)), (1, .int (nI (((0 + 1) + 1) + 0))), (0, .ref x)]) hx hb dX3_standing_27 hl (k := 1) rfl (pw_inc _ 1) (by decide) rfl (fun ls hl => ?_)
        refine lv_goto (tgt := 4) hx hb dX3_standing_30 (by decide) ?_
        refine lv_iload_n hx hb dX3_standing_4 rfl (lv_at hl 0 rfl) ?_
        refine lv_iconst (v := nI 4) hx hb dX3_standing_5 (by decide) ?_
        refine lv_icmp_ge (tgt := 33) hx hb dX3_standing_6 (by decide) (fun c => absurd c (by decide)) (fun c => ?_)
        refine lv_iload_n hx hb dX3_standing_9 rfl (lv_at hl 1 rfl) ?_
        refine lv_aload_n hx hb dX3_standing_10 rfl (lv_at hl 2 rfl) ?_
        refine va_get (D := D) (ci := 3) (v := .ref rw) (C := RX3) (T := TX3) (N := 11) hx hb hts hi_X3_standing_3 hown hK.1 hP 0 rfl rfl 4 (by decide) (hts _ hf_X3_standing_19) (fun _ h9 => h9) rfl dX3_standing_11 ?_
        refine lv_iload_n hx hb dX3_standing_14 rfl (lv_at hl 0 rfl) ?_
        refine pw_iald hx hb hK.1 hP 1 0 rfl rfl (by decide) (by omega) dX3_standing_15 ?_
        refine lv_iconst (v := -1) hx hb dX3_standing_16 (by decide) ?_
        refine lv_icmp_ne (tgt := 24) hx hb dX3_standing_17 (by decide) (fun c_5 => ?_) (fun c_5 => ?_)
        · have _h := c_5
          refine lv_iconst (v := nI 1) hx hb dX3_standing_24 (by decide) ?_
          refine pw_iadd hx hb dX3_standing_25 ?_
          refine lv_istore_n (lv' := [(1, .int (nI ((((0 + 1) + 1) + 0) + 1))), (2, .int (nI 3)), (0, .ref x)]) hx hb dX3_standing_26 rfl hl (by decide) rfl (fun ls hl => ?_)
          refine lv_iinc (v := nI 4) (lv' := [(2, .int (nI 4)), (1, .int (nI ((((0 + 1) + 1) + 0) + 1))), (0, .ref x)]) hx hb dX3_standing_27 hl (k := 1) rfl (pw_inc _ 1) (by decide) rfl (fun ls hl => ?_)
          refine lv_goto (tgt := 4) hx hb dX3_standing_30 (by decide) ?_
          refine lv_iload_n hx hb dX3_standing_4 rfl (lv_at hl 0 rfl) ?_
          refine lv_iconst (v := nI 4) hx hb dX3_standing_5 (by decide) ?_
          refine lv_icmp_ge (tgt := 33) hx hb dX3_standing_6 (by decide) (fun c => ?_) (fun c => absurd c (by decide))
          refine lv_iload_n hx hb dX3_standing_33 rfl (lv_at hl 1 rfl) ?_
          exact pw_piret hx hb hr (rfl) hlocks dX3_standing_34 (by rw [if_neg c_1, if_neg c_2, if_pos c_3, if_neg c_5])
        · have _h := c_5
          refine lv_iconst (v := nI 0) hx hb dX3_standing_20 (by decide) ?_
          refine lv_goto (tgt := 25) hx hb dX3_standing_21 (by decide) ?_
          refine pw_iadd hx hb dX3_standing_25 ?_
          refine lv_istore_n (lv' := [(1, .int (nI ((((0 + 1) + 1) + 0) + 0))), (2, .int (nI 3)), (0, .ref x)]) hx hb dX3_standing_26 rfl hl (by decide) rfl (fun ls hl => ?_)
          refine lv_iinc (v := nI 4) (lv' := [(2, .int (nI 4)), (1, .int (nI ((((0 + 1) + 1) + 0) + 0))), (0, .ref x)]) hx hb dX3_standing_27 hl (k := 1) rfl (pw_inc _ 1) (by decide) rfl (fun ls hl => ?_)
          refine lv_goto (tgt := 4) hx hb dX3_standing_30 (by decide) ?_
          refine lv_iload_n hx hb dX3_standing_4 rfl (lv_at hl 0 rfl) ?_
          refine lv_iconst (v := nI 4) hx hb dX3_standing_5 (by decide) ?_
          refine lv_icmp_ge (tgt := 33) hx hb dX3_standing_6 (by decide) (fun c => ?_) (fun c => absurd c (by decide))
          refine lv_iload_n hx hb dX3_standing_33 rfl (lv_at hl 1 rfl) ?_
          exact pw_piret hx hb hr (rfl) hlocks dX3_standing_34 (by rw [if_neg c_1, if_neg c_2, if_pos c_3, if_pos c_5])
    · have _h := c_2
      refine lv_iconst (v := nI 0) hx hb dX3_standing_20 (by decide) ?_
      refine lv_goto (tgt := 25) hx hb dX3_standing_21 (by decide) ?_
      refine pw_iadd hx hb dX3_standing_25 ?_
      refine lv_istore_n (lv' := [(1, .int (nI ((0 + 1) + 0))), (2, .int (nI 1)), (0, .ref x)]) hx hb dX3_standing_26 rfl hl (by decide) rfl (fun ls hl => ?_)
      refine lv_iinc (v := nI 2) (lv' := [(2, .int (nI 2)), (1, .int (nI ((0 + 1) + 0))), (0, .ref x)]) hx hb dX3_standing_27 hl (k := 1) rfl (pw_inc _ 1) (by decide) rfl (fun ls hl => ?_)
      refine lv_goto (tgt := 4) hx hb dX3_standing_30 (by decide) ?_
      refine lv_iload_n hx hb dX3_standing_4 rfl (lv_at hl 0 rfl) ?_
      refine lv_iconst (v := nI 4) hx hb dX3_standing_5 (by decide) ?_
      refine lv_icmp_ge (tgt := 33) hx hb dX3_standing_6 (by decide) (fun c => absurd c (by decide)) (fun c => ?_)
      refine lv_iload_n hx hb dX3_standing_9 rfl (lv_at hl 1 rfl) ?_
      refine lv_aload_n hx hb dX3_standing_10 rfl (lv_at hl 2 rfl) ?_
      refine va_get (D := D) (ci := 3) (v := .ref rw) (C := RX3) (T := TX3) (N := 11) hx hb hts hi_X3_standing_3 hown hK.1 hP 0 rfl rfl 4 (by decide) (hts _ hf_X3_standing_19) (fun _ h9 => h9) rfl dX3_standing_11 ?_
      refine lv_iload_n hx hb dX3_standing_14 rfl (lv_at hl 0 rfl) ?_
      refine pw_iald hx hb hK.1 hP 1 0 rfl rfl (by decide) (by omega) dX3_standing_15 ?_
      refine lv_iconst (v := -1) hx hb dX3_standing_16 (by decide) ?_
      refine lv_icmp_ne (tgt := 24) hx hb dX3_standing_17 (by decide) (fun c_6 => ?_) (fun c_6 => ?_)
      · have _h := c_6
        refine lv_iconst (v := nI 1) hx hb dX3_standing_24 (by decide) ?_
        refine pw_iadd hx hb dX3_standing_25 ?_
        refine lv_istore_n (lv' := [(1, .int (nI (((0 + 1) + 0) + 1))), (2, .int (nI 2)), (0, .ref x)]) hx hb dX3_standing_26 rfl hl (by decide) rfl (fun ls hl => ?_)
        refine lv_iinc (v := nI 3) (lv' := [(2, .int (nI 3)), (1, .int (nI (((0 + 1) + 0) + 1))), (0, .ref x)]) hx hb dX3_standing_27 hl (k := 1) rfl (pw_inc _ 1) (by decide) rfl (fun ls hl => ?_)
        refine lv_goto (tgt := 4) hx hb dX3_standing_30 (by decide) ?_
        refine lv_iload_n hx hb dX3_standing_4 rfl (lv_at hl 0 rfl) ?_
        refine lv_iconst (v := nI 4) hx hb dX3_standing_5 (by decide) ?_
        refine lv_icmp_ge (tgt := 33) hx hb dX3_standing_6 (by decide) (fun c => absurd c (by decide)) (fun c => ?_)
        refine lv_iload_n hx hb dX3_standing_9 rfl (lv_at hl 1 rfl) ?_
        refine lv_aload_n hx hb dX3_standing_10 rfl (lv_at hl 2 rfl) ?_
        refine va_get (D := D) (ci := 3) (v := .ref rw) (C := RX3) (T := TX3) (N := 11) hx hb hts hi_X3_standing_3 hown hK.1 hP 0 rfl rfl 4 (by decide) (hts _ hf_X3_standing_19) (fun _ h9 => h9) rfl dX3_standing_11 ?_
        refine lv_iload_n hx hb dX3_standing_14 rfl (lv_at hl 0 rfl) ?_
        refine pw_iald hx hb hK.1 hP 1 0 rfl rfl (by decide) (by omega) dX3_standing_15 ?_
        refine lv_iconst (v := -1) hx hb dX3_standing_16 (by decide) ?_
        refine lv_icmp_ne (tgt := 24) hx hb dX3_standing_17 (by decide) (fun c_7 => ?_) (fun c_7 => ?_)
        · have _h := c_7
          refine lv_iconst (v := nI 1) hx hb dX3_standing_24 (by decide) ?_
          refine pw_iadd hx hb dX3_standing_25 ?_
          refine lv_istore_n (lv' := [(1, .int (nI ((((0 + 1) + 0) + 1) + 1))), (2, .int (nI 3)), (0, .ref x)]) hx hb dX3_standing_26 rfl hl (by decide) rfl (fun ls hl => ?_)
          refine lv_iinc (v := nI 4) (lv' := [(2, .int (nI 4)), (1, .int (nI ((((0 + 1) + 0) + 1) + 1))), (0, .ref x)]) hx hb dX3_standing_27 hl (k := 1) rfl (pw_inc _ 1) (by decide) rfl (fun ls hl => ?_)
          refine lv_goto (tgt := 4) hx hb dX3_standing_30 (by decide) ?_
          refine lv_iload_n hx hb dX3_standing_4 rfl (lv_at hl 0 rfl) ?_
          refine lv_iconst (v := nI 4) hx hb dX3_standing_5 (by decide) ?_
          refine lv_icmp_ge (tgt := 33) hx hb dX3_standing_6 (by decide) (fun c => ?_) (fun c => absurd c (by decide))
          refine lv_iload_n hx hb dX3_standing_33 rfl (lv_at hl 1 rfl) ?_
          exact pw_piret hx hb hr (rfl) hlocks dX3_standing_34 (by rw [if_neg c_1, if_pos c_2, if_neg c_6, if_neg c_7])
        · have _h := c_7
          refine lv_iconst (v := nI 0) hx hb dX3_standing_20 (by decide) ?_
          refine lv_goto (tgt := 25) hx hb dX3_standing_21 (by decide) ?_
          refine pw_iadd hx hb dX3_standing_25 ?_
          refine lv_istore_n (lv' := [(1, .int (nI ((((0 + 1) + 0) + 1) + 0))), (2, .int (nI 3)), (0, .ref x)]) hx hb dX3_standing_26 rfl hl (by decide) rfl (fun ls hl => ?_)
          refine lv_iinc (v := nI 4) (lv' := [(2, .int (nI 4)), (1, .int (nI ((((0 + 1) + 0) + 1) + 0))), (0, .ref x)]) hx hb dX3_standing_27 hl (k := 1) rfl (pw_inc _ 1) (by decide) rfl (fun ls hl => ?_)
          refine lv_goto (tgt := 4) hx hb dX3_standing_30 (by decide) ?_
          refine lv_iload_n hx hb dX3_standing_4 rfl (lv_at hl 0 rfl) ?_
          refine lv_iconst (v := nI 4) hx hb dX3_standing_5 (by decide) ?_
          refine lv_icmp_ge (tgt := 33) hx hb dX3_standing_6 (by decide) (fun c => ?_) (fun c => absurd c (by decide))
          refine lv_iload_n hx hb dX3_standing_33 rfl (lv_at hl 1 rfl) ?_
          exact pw_piret hx hb hr (rfl) hlocks dX3_standing_34 (by rw [if_neg c_1, if_pos c_2, if_neg c_6, if_pos c_7])
      · have _h := c_6
        refine lv_iconst (v := nI 0) hx hb dX3_standing_20 (by decide) ?_
        refine lv_goto (tgt := 25) hx hb dX3_standing_21 (by decide) ?_
        refine pw_iadd hx hb dX3_standing_25 ?_
        refine lv_istore_n (lv' := [(1, .int (nI (((0 + 1) + 0) + 0))), (2, .int (nI 2)), (0, .ref x)]) hx hb dX3_standing_26 rfl hl (by decide) rfl (fun ls hl => ?_)
        refine lv_iinc (v := nI 3) (lv' := [(2, .int (nI 3)), (1, .int (nI (((0 + 1) + 0) + 0))), (0, .ref x)]) hx hb dX3_standing_27 hl (k := 1) rfl (pw_inc _ 1) (by decide) rfl (fun ls hl => ?_)
        refine lv_goto (tgt := 4) hx hb dX3_standing_30 (by decide) ?_
        refine lv_iload_n hx hb dX3_standing_4 rfl (lv_at hl 0 rfl) ?_
        refine lv_iconst (v := nI 4) hx hb dX3_standing_5 (by decide) ?_
        refine lv_icmp_ge (tgt := 33) hx hb dX3_standing_6 (by decide) (fun c => absurd c (by decide)) (fun c => ?_)
        refine lv_iload_n hx hb dX3_standing_9 rfl (lv_at hl 1 rfl) ?_
        refine lv_aload_n hx hb dX3_standing_10 rfl (lv_at hl 2 rfl) ?_
        refine va_get (D := D) (ci := 3) (v := .ref rw) (C := RX3) (T := TX3) (N := 11) hx hb hts hi_X3_standing_3 hown hK.1 hP 0 rfl rfl 4 (by decide) (hts _ hf_X3_standing_19) (fun _ h9 => h9) rfl dX3_standing_11 ?_
        refine lv_iload_n hx hb dX3_standing_14 rfl (lv_at hl 0 rfl) ?_
        refine pw_iald hx hb hK.1 hP 1 0 rfl rfl (by decide) (by omega) dX3_standing_15 ?_
        refine lv_iconst (v := -1) hx hb dX3_standing_16 (by decide) ?_
        refine lv_icmp_ne (tgt := 24) hx hb dX3_standing_17 (by decide) (fun c_8 => ?_) (fun c_8 => ?_)
        · have _h := c_8
          refine lv_iconst (v := nI 1) hx hb dX3_standing_24 (by decide) ?_
          refine pw_iadd hx hb dX3_standing_25 ?_
          refine lv_istore_n (lv' := [(1, .int (nI ((((0 + 1) + 0) + 0) + 1))), (2, .int (nI 3)), (0, .ref x)]) hx hb dX3_standing_26 rfl hl (by decide) rfl (fun ls hl => ?_)
          refine lv_iinc (v := nI 4) (lv' := [(2, .int (nI 4)), (1, .int (nI ((((0 + 1) + 0) + 0) + 1))), (0, .ref x)]) hx hb dX3_standing_27 hl (k := 1) rfl (pw_inc _ 1) (by decide) rfl (fun ls hl => ?_)
          refine lv_goto (tgt := 4) hx hb dX3_standing_30 (by decide) ?_
          refine lv_iload_n hx hb dX3_standing_4 rfl (lv_at hl 0 rfl) ?_
          refine lv_iconst (v := nI 4) hx hb dX3_standing_5 (by decide) ?_
          refine lv_icmp_ge (tgt := 33) hx hb dX3_standing_6 (by decide) (fun c => ?_) (fun c => absurd c (by decide))
          refine lv_iload_n hx hb dX3_standing_33 rfl (lv_at hl 1 rfl) ?_
          exact pw_piret hx hb hr (rfl) hlocks dX3_standing_34 (by rw [if_neg c_1, if_pos c_2, if_pos c_6, if_neg c_8])
        · have _h := c_8
          refine lv_iconst (v := nI 0) hx hb dX3_standing_20 (by decide) ?_
          refine lv_goto (tgt := 25) hx hb dX3_standing_21 (by decide) ?_
          refine pw_iadd hx hb dX3_standing_25 ?_
          refine lv_istore_n (lv' := [(1, .int (nI ((((0 + 1) + 0) + 0) + 0))), (2, .int (nI 3)), (0, .ref x)]) hx hb dX3_standing_26 rfl hl (by decide) rfl (fun ls hl => ?_)
          refine lv_iinc (v := nI 4) (lv' := [(2, .int (nI 4)), (1, .int (nI ((((0 + 1) + 0) + 0) + 0))), (0, .ref x)]) hx hb dX3_standing_27 hl (k := 1) rfl (pw_inc _ 1) (by decide) rfl (fun ls hl => ?_)
          refine lv_goto (tgt := 4) hx hb dX3_standing_30 (by decide) ?_
          refine lv_iload_n hx hb dX3_standing_4 rfl (lv_at hl 0 rfl) ?_
          refine lv_iconst (v := nI 4) hx hb dX3_standing_5 (by decide) ?_
          refine lv_icmp_ge (tgt := 33) hx hb dX3_standing_6 (by decide) (fun c => ?_) (fun c => absurd c (by decide))
          refine lv_iload_n hx hb dX3_standing_33 rfl (lv_at hl 1 rfl) ?_
          exact pw_piret hx hb hr (rfl) hlocks dX3_standing_34 (by rw [if_neg c_1, if_pos c_2, if_pos c_6, if_pos c_8])
  · have _h := c_1
    refine lv_iconst (v := nI 0) hx hb dX3_standing_20 (by decide) ?_
    refine lv_goto (tgt := 25) hx hb dX3_standing_21 (by decide) ?_
    refine pw_iadd hx hb dX3_standing_25 ?_
    refine lv_istore_n (lv' := [(1, .int (nI (0 + 0))), (2, .int (nI 0)), (0, .ref x)]) hx hb dX3_standing_26 rfl hl (by decide) rfl (fun ls hl => ?_)
    refine lv_iinc (v := nI 1) (lv' := [(2, .int (nI 1)), (1, .int (nI (0 + 0))), (0, .ref x)]) hx hb dX3_standing_27 hl (k := 1) rfl (pw_inc _ 1) (by decide) rfl (fun ls hl => ?_)
    refine lv_goto (tgt := 4) hx hb dX3_standing_30 (by decide) ?_
    refine lv_iload_n hx hb dX3_standing_4 rfl (lv_at hl 0 rfl) ?_
    refine lv_iconst (v := nI 4) hx hb dX3_standing_5 (by decide) ?_
    refine lv_icmp_ge (tgt := 33) hx hb dX3_standing_6 (by decide) (fun c => absurd c (by decide)) (fun c => ?_)
    refine lv_iload_n hx hb dX3_standing_9 rfl (lv_at hl 1 rfl) ?_
    refine lv_aload_n hx hb dX3_standing_10 rfl (lv_at hl 2 rfl) ?_
    refine va_get (D := D) (ci := 3) (v := .ref rw) (C := RX3) (T := TX3) (N := 11) hx hb hts hi_X3_standing_3 hown hK.1 hP 0 rfl rfl 4 (by decide) (hts _ hf_X3_standing_19) (fun _ h9 => h9) rfl dX3_standing_11 ?_
    refine lv_iload_n hx hb dX3_standing_14 rfl (lv_at hl 0 rfl) ?_
    refine pw_iald hx hb hK.1 hP 1 0 rfl rfl (by decide) (by omega) dX3_standing_15 ?_
    refine lv_iconst (v := -1) hx hb dX3_standing_16 (by decide) ?_
    refine lv_icmp_ne (tgt := 24) hx hb dX3_standing_17 (by decide) (fun c_9 => ?_) (fun c_9 => ?_)
    · have _h := c_9
      refine lv_iconst (v := nI 1) hx hb dX3_standing_24 (by decide) ?_
      refine pw_iadd hx hb dX3_standing_25 ?_
      refine lv_istore_n (lv' := [(1, .int (nI ((0 + 0) + 1))), (2, .int (nI 1)), (0, .ref x)]) hx hb dX3_standing_26 rfl hl (by decide) rfl (fun ls hl => ?_)
      refine lv_iinc (v := nI 2) (lv' := [(2, .int (nI 2)), (1, .int (nI ((0 + 0) + 1))), (0, .ref x)]) hx hb dX3_standing_27 hl (k := 1) rfl (pw_inc _ 1) (by decide) rfl (fun ls hl => ?_)
      refine lv_goto (tgt := 4) hx hb dX3_standing_30 (by decide) ?_
      refine lv_iload_n hx hb dX3_standing_4 rfl (lv_at hl 0 rfl) ?_
      refine lv_iconst (v := nI 4) hx hb dX3_standing_5 (by decide) ?_
      refine lv_icmp_ge (tgt := 33) hx hb dX3_standing_6 (by decide) (fun c => absurd c (by decide)) (fun c => ?_)
      refine lv_iload_n hx hb dX3_standing_9 rfl (lv_at hl 1 rfl) ?_
      refine lv_aload_n hx hb dX3_standing_10 rfl (lv_at hl 2 rfl) ?_
      refine va_get (D := D) (ci := 3) (v := .ref rw) (C := RX3) (T := TX3) (N := 11) hx hb hts hi_X3_standing_3 hown hK.1 hP 0 rfl rfl 4 (by decide) (hts _ hf_X3_standing_19) (fun _ h9 => h9) rfl dX3_standing_11 ?_
      refine lv_iload_n hx hb dX3_standing_14 rfl (lv_at hl 0 rfl) ?_
      refine pw_iald hx hb hK.1 hP 1 0 rfl rfl (by decide) (by omega) dX3_standing_15 ?_
      refine lv_iconst (v := -1) hx hb dX3_standing_16 (by decide) ?_
      refine lv_icmp_ne (tgt := 24) hx hb dX3_standing_17 (by decide) (fun c_10 => ?_) (fun c_10 => ?_)
      · have _h := c_10
        refine lv_iconst (v := nI 1) hx hb dX3_standing_24 (by decide) ?_
        refine pw_iadd hx hb dX3_standing_25 ?_
        refine lv_istore_n (lv' := [(1, .int (nI (((0 + 0) + 1) + 1))), (2, .int (nI 2)), (0, .ref x)]) hx hb dX3_standing_26 rfl hl (by decide) rfl (fun ls hl => ?_)
        refine lv_iinc (v := nI 3) (lv' := [(2, .int (nI 3)), (1, .int (nI (((0 + 0) + 1) + 1))), (0, .ref x)]) hx hb dX3_standing_27 hl (k := 1) rfl (pw_inc _ 1) (by decide) rfl (fun ls hl => ?_)
        refine lv_goto (tgt := 4) hx hb dX3_standing_30 (by decide) ?_
        refine lv_iload_n hx hb dX3_standing_4 rfl (lv_at hl 0 rfl) ?_
        refine lv_iconst (v := nI 4) hx hb dX3_standing_5 (by decide) ?_
        refine lv_icmp_ge (tgt := 33) hx hb dX3_standing_6 (by decide) (fun c => absurd c (by decide)) (fun c => ?_)
        refine lv_iload_n hx hb dX3_standing_9 rfl (lv_at hl 1 rfl) ?_
        refine lv_aload_n hx hb dX3_standing_10 rfl (lv_at hl 2 rfl) ?_
        refine va_get (D := D) (ci := 3) (v := .ref rw) (C := RX3) (T := TX3) (N := 11) hx hb hts hi_X3_standing_3 hown hK.1 hP 0 rfl rfl 4 (by decide) (hts _ hf_X3_standing_19) (fun _ h9 => h9) rfl dX3_standing_11 ?_
        refine lv_iload_n hx hb dX3_standing_14 rfl (lv_at hl 0 rfl) ?_
        refine pw_iald hx hb hK.1 hP 1 0 rfl rfl (by decide) (by omega) dX3_standing_15 ?_
        refine lv_iconst (v := -1) hx hb dX3_standing_16 (by decide) ?_
        refine lv_icmp_ne (tgt := 24) hx hb dX3_standing_17 (by decide) (fun c_11 => ?_) (fun c_11 => ?_)
        · have _h := c_11
          refine lv_iconst (v := nI 1) hx hb dX3_standing_24 (by decide) ?_
          refine pw_iadd hx hb dX3_standing_25 ?_
          refine lv_istore_n (lv' := [(1, .int (nI ((((0 + 0) + 1) + 1) + 1))), (2, .int (nI 3)), (0, .ref x)]) hx hb dX3_standing_26 rfl hl (by decide) rfl (fun ls hl => ?_)
          refine lv_iinc (v := nI 4) (lv' := [(2, .int (nI 4)), (1, .int (nI ((((0 + 0) + 1) + 1) + 1))), (0, .ref x)]) hx hb dX3_standing_27 hl (k := 1) rfl (pw_inc _ 1) (by decide) rfl (fun ls hl => ?_)
          refine lv_goto (tgt := 4) hx hb dX3_standing_30 (by decide) ?_
          refine lv_iload_n hx hb dX3_standing_4 rfl (lv_at hl 0 rfl) ?_
          refine lv_iconst (v := nI 4) hx hb dX3_standing_5 (by decide) ?_
          refine lv_icmp_ge (tgt := 33) hx hb dX3_standing_6 (by decide) (fun c => ?_) (fun c => absurd c (by decide))
          refine lv_iload_n hx hb dX3_standing_33 rfl (lv_at hl 1 rfl) ?_
          exact pw_piret hx hb hr (rfl) hlocks dX3_standing_34 (by rw [if_pos c_1, if_neg c_9, if_neg c_10, if_neg c_11])
        · have _h := c_11
          refine lv_iconst (v := nI 0) hx hb dX3_standing_20 (by decide) ?_
          refine lv_goto (tgt := 25) hx hb dX3_standing_21 (by decide) ?_
          refine pw_iadd hx hb dX3_standing_25 ?_
          refine lv_istore_n (lv' := [(1, .int (nI ((((0 + 0) + 1) + 1) + 0))), (2, .int (nI 3)), (0, .ref x)]) hx hb dX3_standing_26 rfl hl (by decide) rfl (fun ls hl => ?_)
          refine lv_iinc (v := nI 4) (lv' := [(2, .int (nI 4)), (1, .int (nI ((((0 + 0) + 1) + 1) + 0))), (0, .ref x)]) hx hb dX3_standing_27 hl (k := 1) rfl (pw_inc _ 1) (by decide) rfl (fun ls hl => ?_)
          refine lv_goto (tgt := 4) hx hb dX3_standing_30 (by decide) ?_
          refine lv_iload_n hx hb dX3_standing_4 rfl (lv_at hl 0 rfl) ?_
          refine lv_iconst (v := nI 4) hx hb dX3_standing_5 (by decide) ?_
          refine lv_icmp_ge (tgt := 33) hx hb dX3_standing_6 (by decide) (fun c => ?_) (fun c => absurd c (by decide))
          refine lv_iload_n hx hb dX3_standing_33 rfl (lv_at hl 1 rfl) ?_
          exact pw_piret hx hb hr (rfl) hlocks dX3_standing_34 (by rw [if_pos c_1, if_neg c_9, if_neg c_10, if_pos c_11])
      · have _h := c_10
        refine lv_iconst (v := nI 0) hx hb dX3_standing_20 (by decide) ?_
        refine lv_goto (tgt := 25) hx hb dX3_standing_21 (by decide) ?_
        refine pw_iadd hx hb dX3_standing_25 ?_
        refine lv_istore_n (lv' := [(1, .int (nI (((0 + 0) + 1) + 0))), (2, .int (nI 2)), (0, .ref x)]) hx hb dX3_standing_26 rfl hl (by decide) rfl (fun ls hl => ?_)
        refine lv_iinc (v := nI 3) (lv' := [(2, .int (nI 3)), (1, .int (nI (((0 + 0) + 1) + 0))), (0, .ref x)]) hx hb dX3_standing_27 hl (k := 1) rfl (pw_inc _ 1) (by decide) rfl (fun ls hl => ?_)
        refine lv_goto (tgt := 4) hx hb dX3_standing_30 (by decide) ?_
        refine lv_iload_n hx hb dX3_standing_4 rfl (lv_at hl 0 rfl) ?_
        refine lv_iconst (v := nI 4) hx hb dX3_standing_5 (by decide) ?_
        refine lv_icmp_ge (tgt := 33) hx hb dX3_standing_6 (by decide) (fun c => absurd c (by decide)) (fun c => ?_)
        refine lv_iload_n hx hb dX3_standing_9 rfl (lv_at hl 1 rfl) ?_
        refine lv_aload_n hx hb dX3_standing_10 rfl (lv_at hl 2 rfl) ?_
        refine va_get (D := D) (ci := 3) (v := .ref rw) (C := RX3) (T := TX3) (N := 11) hx hb hts hi_X3_standing_3 hown hK.1 hP 0 rfl rfl 4 (by decide) (hts _ hf_X3_standing_19) (fun _ h9 => h9) rfl dX3_standing_11 ?_
        refine lv_iload_n hx hb dX3_standing_14 rfl (lv_at hl 0 rfl) ?_
        refine pw_iald hx hb hK.1 hP 1 0 rfl rfl (by decide) (by omega) dX3_standing_15 ?_
        refine lv_iconst (v := -1) hx hb dX3_standing_16 (by decide) ?_
        refine lv_icmp_ne (tgt := 24) hx hb dX3_standing_17 (by decide) (fun c_12 => ?_) (fun c_12 => ?_)
        · have _h := c_12
          refine lv_iconst (v := nI 1) hx hb dX3_standing_24 (by decide) ?_
          refine pw_iadd hx hb dX3_standing_25 ?_
          refine lv_istore_n (lv' := [(1, .int (nI ((((0 + 0) + 1) + 0) + 1))), (2, .int (nI 3)), (0, .ref x)]) hx hb dX3_standing_26 rfl hl (by decide) rfl (fun ls hl => ?_)
          refine lv_iinc (v := nI 4) (lv' := [(2, .int (nI 4)), (1, .int (nI ((((0 + 0) + 1) + 0) + 1))), (0, .ref x)]) hx hb dX3_standing_27 hl (k := 1) rfl (pw_inc _ 1) (by decide) rfl (fun ls hl => ?_)
          refine lv_goto (tgt := 4) hx hb dX3_standing_30 (by decide) ?_
          refine lv_iload_n hx hb dX3_standing_4 rfl (lv_at hl 0 rfl) ?_
          refine lv_iconst (v := nI 4) hx hb dX3_standing_5 (by decide) ?_
          refine lv_icmp_ge (tgt := 33) hx hb dX3_standing_6 (by decide) (fun c => ?_) (fun c => absurd c (by decide))
          refine lv_iload_n hx hb dX3_standing_33 rfl (lv_at hl 1 rfl) ?_
          exact pw_piret hx hb hr (rfl) hlocks dX3_standing_34 (by rw [if_pos c_1, if_neg c_9, if_pos c_10, if_neg c_12])
        · have _h := c_12
          refine lv_iconst (v := nI 0) hx hb dX3_standing_20 (by decide) ?_
          refine lv_goto (tgt := 25) hx hb dX3_standing_21 (by decide) ?_
          refine pw_iadd hx hb dX3_standing_25 ?_
          refine lv_istore_n (lv' := [(1, .int (nI ((((0 + 0) + 1) + 0) + 0))), (2, .int (nI 3)), (0, .ref x)]) hx hb dX3_standing_26 rfl hl (by decide) rfl (fun ls hl => ?_)
          refine lv_iinc (v := nI 4) (lv' := [(2, .int (nI 4)), (1, .int (nI ((((0 + 0) + 1) + 0) + 0))), (0, .ref x)]) hx hb dX3_standing_27 hl (k := 1) rfl (pw_inc _ 1) (by decide) rfl (fun ls hl => ?_)
          refine lv_goto (tgt := 4) hx hb dX3_standing_30 (by decide) ?_
          refine lv_iload_n hx hb dX3_standing_4 rfl (lv_at hl 0 rfl) ?_
          refine lv_iconst (v := nI 4) hx hb dX3_standing_5 (by decide) ?_
          refine lv_icmp_ge (tgt := 33) hx hb dX3_standing_6 (by decide) (fun c => ?_) (fun c => absurd c (by decide))
          refine lv_iload_n hx hb dX3_standing_33 rfl (lv_at hl 1 rfl) ?_
          exact pw_piret hx hb hr (rfl) hlocks dX3_standing_34 (by rw [if_pos c_1, if_neg c_9, if_pos c_10, if_pos c_12])
    · have _h := c_9
      refine lv_iconst (v := nI 0) hx hb dX3_standing_20 (by decide) ?_
      refine lv_goto (tgt := 25) hx hb dX3_standing_21 (by decide) ?_
      refine pw_iadd hx hb dX3_standing_25 ?_
      refine lv_istore_n (lv' := [(1, .int (nI ((0 + 0) + 0))), (2, .int (nI 1)), (0, .ref x)]) hx hb dX3_standing_26 rfl hl (by decide) rfl (fun ls hl => ?_)
      refine lv_iinc (v := nI 2) (lv' := [(2, .int (nI 2)), (1, .int (nI ((0 + 0) + 0))), (0, .ref x)]) hx hb dX3_standing_27 hl (k := 1) rfl (pw_inc _ 1) (by decide) rfl (fun ls hl => ?_)
      refine lv_goto (tgt := 4) hx hb dX3_standing_30 (by decide) ?_
      refine lv_iload_n hx hb dX3_standing_4 rfl (lv_at hl 0 rfl) ?_
      refine lv_iconst (v := nI 4) hx hb dX3_standing_5 (by decide) ?_
      refine lv_icmp_ge (tgt := 33) hx hb dX3_standing_6 (by decide) (fun c => absurd c (by decide)) (fun c => ?_)
      refine lv_iload_n hx hb dX3_standing_9 rfl (lv_at hl 1 rfl) ?_
      refine lv_aload_n hx hb dX3_standing_10 rfl (lv_at hl 2 rfl) ?_
      refine va_get (D := D) (ci := 3) (v := .ref rw) (C := RX3) (T := TX3) (N := 11) hx hb hts hi_X3_standing_3 hown hK.1 hP 0 rfl rfl 4 (by decide) (hts _ hf_X3_standing_19) (fun _ h9 => h9) rfl dX3_standing_11 ?_
      refine lv_iload_n hx hb dX3_standing_14 rfl (lv_at hl 0 rfl) ?_
      refine pw_iald hx hb hK.1 hP 1 0 rfl rfl (by decide) (by omega) dX3_standing_15 ?_
      refine lv_iconst (v := -1) hx hb dX3_standing_16 (by decide) ?_
      refine lv_icmp_ne (tgt := 24) hx hb dX3_standing_17 (by decide) (fun c_13 => ?_) (fun c_13 => ?_)
      · have _h := c_13
        refine lv_iconst (v := nI 1) hx hb dX3_standing_24 (by decide) ?_
        refine pw_iadd hx hb dX3_standing_25 ?_
        refine lv_istore_n (lv' := [(1, .int (nI (((0 + 0) + 0) + 1))), (2, .int (nI 2)), (0, .ref x)]) hx hb dX3_standing_26 rfl hl (by decide) rfl (fun ls hl => ?_)
        refine lv_iinc (v := nI 3) (lv' := [(2, .int (nI 3)), (1, .int (nI (((0 + 0) + 0) + 1))), (0, .ref x)]) hx hb dX3_standing_27 hl (k := 1) rfl (pw_inc _ 1) (by decide) rfl (fun ls hl => ?_)
        refine lv_goto (tgt := 4) hx hb dX3_standing_30 (by decide) ?_
        refine lv_iload_n hx hb dX3_standing_4 rfl (lv_at hl 0 rfl) ?_
        refine lv_iconst (v := nI 4) hx hb dX3_standing_5 (by decide) ?_
        refine lv_icmp_ge (tgt := 33) hx hb dX3_standing_6 (by decide) (fun c => absurd c (by decide)) (fun c => ?_)
        refine lv_iload_n hx hb dX3_standing_9 rfl (lv_at hl 1 rfl) ?_
        refine lv_aload_n hx hb dX3_standing_10 rfl (lv_at hl 2 rfl) ?_
        refine va_get (D := D) (ci := 3) (v := .ref rw) (C := RX3) (T := TX3) (N := 11) hx hb hts hi_X3_standing_3 hown hK.1 hP 0 rfl rfl 4 (by decide) (hts _ hf_X3_standing_19) (fun _ h9 => h9) rfl dX3_standing_11 ?_
        refine lv_iload_n hx hb dX3_standing_14 rfl (lv_at hl 0 rfl) ?_
        refine pw_iald hx hb hK.1 hP 1 0 rfl rfl (by decide) (by omega) dX3_standing_15 ?_
        refine lv_iconst (v := -1) hx hb dX3_standing_16 (by decide) ?_
        refine lv_icmp_ne (tgt := 24) hx hb dX3_standing_17 (by decide) (fun c_14 => ?_) (fun c_14 => ?_)
        · have _h := c_14
          refine lv_iconst (v := nI 1) hx hb dX3_standing_24 (by decide) ?_
          refine pw_iadd hx hb dX3_standing_25 ?_
          refine lv_istore_n (lv' := [(1, .int (nI ((((0 + 0) + 0) + 1) + 1))), (2, .int (nI 3)), (0, .ref x)]) hx hb dX3_standing_26 rfl hl (by decide) rfl (fun ls hl => ?_)
          refine lv_iinc (v := nI 4) (lv' := [(2, .int (nI 4)), (1, .int (nI ((((0 + 0) + 0) + 1) + 1))), (0, .ref x)]) hx hb dX3_standing_27 hl (k := 1) rfl (pw_inc _ 1) (by decide) rfl (fun ls hl => ?_)
          refine lv_goto (tgt := 4) hx hb dX3_standing_30 (by decide) ?_
          refine lv_iload_n hx hb dX3_standing_4 rfl (lv_at hl 0 rfl) ?_
          refine lv_iconst (v := nI 4) hx hb dX3_standing_5 (by decide) ?_
          refine lv_icmp_ge (tgt := 33) hx hb dX3_standing_6 (by decide) (fun c => ?_) (fun c => absurd c (by decide))
          refine lv_iload_n hx hb dX3_standing_33 rfl (lv_at hl 1 rfl) ?_
          exact pw_piret hx hb hr (rfl) hlocks dX3_standing_34 (by rw [if_pos c_1, if_pos c_9, if_neg c_13, if_neg c_14])
        · have _h := c_14
          refine lv_iconst (v := nI 0) hx hb dX3_standing_20 (by decide) ?_
          refine lv_goto (tgt := 25) hx hb dX3_standing_21 (by decide) ?_
          refine pw_iadd hx hb dX3_standing_25 ?_
          refine lv_istore_n (lv' := [(1, .int (nI ((((0 + 0) + 0) + 1) + 0))), (2, .int (nI 3)), (0, .ref x)]) hx hb dX3_standing_26 rfl hl (by decide) rfl (fun ls hl => ?_)
          refine lv_iinc (v := nI 4) (lv' := [(2, .int (nI 4)), (1, .int (nI ((((0 + 0) + 0) + 1) + 0))), (0, .ref x)]) hx hb dX3_standing_27 hl (k := 1) rfl (pw_inc _ 1) (by decide) rfl (fun ls hl => ?_)
          refine lv_goto (tgt := 4) hx hb dX3_standing_30 (by decide) ?_
          refine lv_iload_n hx hb dX3_standing_4 rfl (lv_at hl 0 rfl) ?_
          refine lv_iconst (v := nI 4) hx hb dX3_standing_5 (by decide) ?_
          refine lv_icmp_ge (tgt := 33) hx hb dX3_standing_6 (by decide) (fun c => ?_) (fun c => absurd c (by decide))
          refine lv_iload_n hx hb dX3_standing_33 rfl (lv_at hl 1 rfl) ?_
          exact pw_piret hx hb hr (rfl) hlocks dX3_standing_34 (by rw [if_pos c_1, if_pos c_9, if_neg c_13, if_pos c_14])
      · have _h := c_13
        refine lv_iconst (v := nI 0) hx hb dX3_standing_20 (by decide) ?_
        refine lv_goto (tgt := 25) hx hb dX3_standing_21 (by decide) ?_
        refine pw_iadd hx hb dX3_standing_25 ?_
        refine lv_istore_n (lv' := [(1, .int (nI (((0 + 0) + 0) + 0))), (2, .int (nI 2)), (0, .ref x)]) hx hb dX3_standing_26 rfl hl (by decide) rfl (fun ls hl => ?_)
        refine lv_iinc (v := nI 3) (lv' := [(2, .int (nI 3)), (1, .int (nI (((0 + 0) + 0) + 0))), (0, .ref x)]) hx hb dX3_standing_27 hl (k := 1) rfl (pw_inc _ 1) (by decide) rfl (fun ls hl => ?_)
        refine lv_goto (tgt := 4) hx hb dX3_standing_30 (by decide) ?_
        refine lv_iload_n hx hb dX3_standing_4 rfl (lv_at hl 0 rfl) ?_
        refine lv_iconst (v := nI 4) hx hb dX3_standing_5 (by decide) ?_
        refine lv_icmp_ge (tgt := 33) hx hb dX3_standing_6 (by decide) (fun c => absurd c (by decide)) (fun c => ?_)
        refine lv_iload_n hx hb dX3_standing_9 rfl (lv_at hl 1 rfl) ?_
        refine lv_aload_n hx hb dX3_standing_10 rfl (lv_at hl 2 rfl) ?_
        refine va_get (D := D) (ci := 3) (v := .ref rw) (C := RX3) (T := TX3) (N := 11) hx hb hts hi_X3_standing_3 hown hK.1 hP 0 rfl rfl 4 (by decide) (hts _ hf_X3_standing_19) (fun _ h9 => h9) rfl dX3_standing_11 ?_
        refine lv_iload_n hx hb dX3_standing_14 rfl (lv_at hl 0 rfl) ?_
        refine pw_iald hx hb hK.1 hP 1 0 rfl rfl (by decide) (by omega) dX3_standing_15 ?_
        refine lv_iconst (v := -1) hx hb dX3_standing_16 (by decide) ?_
        refine lv_icmp_ne (tgt := 24) hx hb dX3_standing_17 (by decide) (fun c_15 => ?_) (fun c_15 => ?_)
        · have _h := c_15
          refine lv_iconst (v := nI 1) hx hb dX3_standing_24 (by decide) ?_
          refine pw_iadd hx hb dX3_standing_25 ?_
          refine lv_istore_n (lv' := [(1, .int (nI ((((0 + 0) + 0) + 0) + 1))), (2, .int (nI 3)), (0, .ref x)]) hx hb dX3_standing_26 rfl hl (by decide) rfl (fun ls hl => ?_)
          refine lv_iinc (v := nI 4) (lv' := [(2, .int (nI 4)), (1, .int (nI ((((0 + 0) + 0) + 0) + 1))), (0, .ref x)]) hx hb dX3_standing_27 hl (k := 1) rfl (pw_inc _ 1) (by decide) rfl (fun ls hl => ?_)
          refine lv_goto (tgt := 4) hx hb dX3_standing_30 (by decide) ?_
          refine lv_iload_n hx hb dX3_standing_4 rfl (lv_at hl 0 rfl) ?_
          refine lv_iconst (v := nI 4) hx hb dX3_standing_5 (by decide) ?_
          refine lv_icmp_ge (tgt := 33) hx hb dX3_standing_6 (by decide) (fun c => ?_) (fun c => absurd c (by decide))
          refine lv_iload_n hx hb dX3_standing_33 rfl (lv_at hl 1 rfl) ?_
          exact pw_piret hx hb hr (rfl) hlocks dX3_standing_34 (by rw [if_pos c_1, if_pos c_9, if_pos c_13, if_neg c_15])
        · have _h := c_15
          refine lv_iconst (v := nI 0) hx hb dX3_standing_20 (by decide) ?_
          refine lv_goto (tgt := 25) hx hb dX3_standing_21 (by decide) ?_
          refine pw_iadd hx hb dX3_standing_25 ?_
          refine lv_istore_n (lv' := [(1, .int (nI ((((0 + 0) + 0) + 0) + 0))), (2, .int (nI 3)), (0, .ref x)]) hx hb dX3_standing_26 rfl hl (by decide) rfl (fun ls hl => ?_)
          refine lv_iinc (v := nI 4) (lv' := [(2, .int (nI 4)), (1, .int (nI ((((0 + 0) + 0) + 0) + 0))), (0, .ref x)]) hx hb dX3_standing_27 hl (k := 1) rfl (pw_inc _ 1) (by decide) rfl (fun ls hl => ?_)
          refine lv_goto (tgt := 4) hx hb dX3_standing_30 (by decide) ?_
          refine lv_iload_n hx hb dX3_standing_4 rfl (lv_at hl 0 rfl) ?_
          refine lv_iconst (v := nI 4) hx hb dX3_standing_5 (by decide) ?_
          refine lv_icmp_ge (tgt := 33) hx hb dX3_standing_6 (by decide) (fun c => ?_) (fun c => absurd c (by decide))
          refine lv_iload_n hx hb dX3_standing_33 rfl (lv_at hl 1 rfl) ?_
          exact pw_piret hx hb hr (rfl) hlocks dX3_standing_34 (by rw [if_pos c_1, if_pos c_9, if_pos c_13, if_pos c_15])
theorem hi_X3_count_3 : ∀ w ∈ u_ws RX3 TX3 11, w ∈ wsX3_count := by decide +kernel
theorem hf_X3_count_44 : Cond.fieldLink RX3 44 "PegrowModel" "made" "I" ∈ wsX3_count := by decide +kernel
set_option maxHeartbeats 4000000 in
set_option maxRecDepth 100000 in
theorem n_count_0 (l : Launch) (D : va_G) (cI cP cR : ClassId) (x t z rf rw pl hd ha lo ol as_ md : Nat) (T : Nat → Nat → Int32) (Z : Nat → Nat) (RF R P Hd HA Lo Ol AS : Nat → Int32) : pw_Mp l yX3_count wsX3_count ({ frames := 1, cells := 0, slots := 0, locals := 22 } : Room) D cI cP cR [.ref x, .int (nI 0)] ([(x, .inr (3, [.ref t, .ref z, .int (nI md), .ref rf, .ref rw, .ref pl, .ref hd, .ref ha, .ref lo, .ref ol, .ref as_])), (t, .inl (cI, 192, .inl (flT T))), (z, .inl (cI, 3, .inl (zI Z))), (rf, .inl (cI, 4, .inl (RF))), (rw, .inl (cI, 4, .inl (R))), (pl, .inl (cI, 4, .inl (P))), (hd, .inl (cI, 4, .inl (Hd))), (ha, .inl (cI, 4, .inl (HA))), (lo, .inl (cI, 4, .inl (Lo))), (ol, .inl (cI, 4, .inl (Ol))), (as_, .inl (cI, 64, .inl (AS)))]) (.int (nI md)) := by
  refine pw_ofp (cc := cX3_count) (maxL := 2) (ret := (some .int)) (own := RX3) (by decide +kernel) rfl rfl (Nat.le_of_ble_eq_true rfl) ?_
  intro p_ e_ s m bel meth cd hE hK hP hD ls hl
  obtain ⟨hx, hb, hr, hml, hown, hts, hlocks⟩ := hE
  have hNW := hK.2
  have hl : lv_has ls 2 [(0, .ref x), (1, .int (nI 0))] := hl
  refine lv_iload_n hx hb dX3_count_0 rfl (lv_at hl 1 rfl) ?_
  refine lv_iconst (v := nI 0) hx hb dX3_count_1 (by decide) ?_
  refine lv_bipush (v := nI 6) hx hb dX3_count_2 (by decide) ?_
  -- m_in_t
  refine pw_cSp (As := [.int (nI 0), .int (nI 0), .int (nI 6)]) (rest := []) ⟨hx, hb, hml, hown, hts⟩ (m_in_t l D cI cP cR (nI 0) (nI 0) (nI 6) (⟨pw_ge0 (by omega), (pw_leN (by omega) (by omega)).mpr (by omega)⟩)) (va_cwS 3 hts gX3_count_X3_in rfl rfl rfl (by decide +kernel) ⟨Nat.le_of_ble_eq_true rfl, Nat.le_of_ble_eq_true rfl⟩) hK rfl hl.1 rfl (Nat.le_of_ble_eq_true rfl) dX3_count_4 ⟨Nat.zero_le _, Nat.zero_le _⟩ ?_
  refine lv_if_ne (tgt := 12) hx hb dX3_count_7 (by decide) (fun c => ?_) (fun c => absurd c (by decide))
  refine lv_iload_n hx hb dX3_count_12 rfl (lv_at hl 1 rfl) ?_
  refine lv_if_ne (tgt := 21) hx hb dX3_count_13 (by decide) (fun c => absurd c (by decide)) (fun c => ?_)
  refine lv_aload_n hx hb dX3_count_16 rfl (lv_at hl 0 rfl) ?_
  refine va_get (D := D) (ci := 3) (v := .int (nI md)) (C := RX3) (T := TX3) (N := 11) hx hb hts hi_X3_count_3 hown hK.1 hP 0 rfl rfl 2 (by decide) (hts _ hf_X3_count_44) (fun _ h9 => h9) rfl dX3_count_17 ?_
  exact pw_piret hx hb hr (rfl) hlocks dX3_count_20 (rfl)
theorem hf_X3_count_16 : Cond.fieldLink RX3 16 "PegrowModel" "refusals" "[I" ∈ wsX3_count := by decide +kernel
set_option maxHeartbeats 4000000 in
set_option maxRecDepth 100000 in
theorem n_count_1 (l : Launch) (D : va_G) (cI cP cR : ClassId) (x t z rf rw pl hd ha lo ol as_ md : Nat) (T : Nat → Nat → Int32) (Z : Nat → Nat) (RF R P Hd HA Lo Ol AS : Nat → Int32) : pw_Mp l yX3_count wsX3_count ({ frames := 1, cells := 0, slots := 0, locals := 22 } : Room) D cI cP cR [.ref x, .int (nI 1)] ([(x, .inr (3, [.ref t, .ref z, .int (nI md), .ref rf, .ref rw, .ref pl, .ref hd, .ref ha, .ref lo, .ref ol, .ref as_])), (t, .inl (cI, 192, .inl (flT T))), (z, .inl (cI, 3, .inl (zI Z))), (rf, .inl (cI, 4, .inl (RF))), (rw, .inl (cI, 4, .inl (R))), (pl, .inl (cI, 4, .inl (P))), (hd, .inl (cI, 4, .inl (Hd))), (ha, .inl (cI, 4, .inl (HA))), (lo, .inl (cI, 4, .inl (Lo))), (ol, .inl (cI, 4, .inl (Ol))), (as_, .inl (cI, 64, .inl (AS)))]) (.int (RF 0)) := by
  refine pw_ofp (cc := cX3_count) (maxL := 2) (ret := (some .int)) (own := RX3) (by decide +kernel) rfl rfl (Nat.le_of_ble_eq_true rfl) ?_
  intro p_ e_ s m bel meth cd hE hK hP hD ls hl
  obtain ⟨hx, hb, hr, hml, hown, hts, hlocks⟩ := hE
  have hNW := hK.2
  have hl : lv_has ls 2 [(0, .ref x), (1, .int (nI 1))] := hl
  refine lv_iload_n hx hb dX3_count_0 rfl (lv_at hl 1 rfl) ?_
  refine lv_iconst (v := nI 0) hx hb dX3_count_1 (by decide) ?_
  refine lv_bipush (v := nI 6) hx hb dX3_count_2 (by decide) ?_
  -- m_in_t
  refine pw_cSp (As := [.int (nI 1), .int (nI 0), .int (nI 6)]) (rest := []) ⟨hx, hb, hml, hown, hts⟩ (m_in_t l D cI cP cR (nI 1) (nI 0) (nI 6) (⟨pw_ge0 (by omega), (pw_leN (by omega) (by omega)).mpr (by omega)⟩)) (va_cwS 3 hts gX3_count_X3_in rfl rfl rfl (by decide +kernel) ⟨Nat.le_of_ble_eq_true rfl, Nat.le_of_ble_eq_true rfl⟩) hK rfl hl.1 rfl (Nat.le_of_ble_eq_true rfl) dX3_count_4 ⟨Nat.zero_le _, Nat.zero_le _⟩ ?_
  refine lv_if_ne (tgt := 12) hx hb dX3_count_7 (by decide) (fun c => ?_) (fun c => absurd c (by decide))
  refine lv_iload_n hx hb dX3_count_12 rfl (lv_at hl 1 rfl) ?_
  refine lv_if_ne (tgt := 21) hx hb dX3_count_13 (by decide) (fun c => ?_) (fun c => absurd c (by decide))
  refine lv_iload_n hx hb dX3_count_21 rfl (lv_at hl 1 rfl) ?_
  refine lv_iconst (v := nI 5) hx hb dX3_count_22 (by decide) ?_
  refine lv_icmp_ge (tgt := 35) hx hb dX3_count_23 (by decide) (fun c => absurd c (by decide)) (fun c => ?_)
  refine lv_aload_n hx hb dX3_count_26 rfl (lv_at hl 0 rfl) ?_
  refine va_get (D := D) (ci := 3) (v := .ref rf) (C := RX3) (T := TX3) (N := 11) hx hb hts hi_X3_count_3 hown hK.1 hP 0 rfl rfl 3 (by decide) (hts _ hf_X3_count_16) (fun _ h9 => h9) rfl dX3_count_27 ?_
  refine lv_iload_n hx hb dX3_count_30 rfl (lv_at hl 1 rfl) ?_
  refine lv_iconst (v := nI 1) hx hb dX3_count_31 (by decide) ?_
  refine pw_isub hx hb (by omega) dX3_count_32 ?_
  refine pw_iald hx hb hK.1 hP 3 0 rfl rfl (by decide) (by omega) dX3_count_33 ?_
  exact pw_piret hx hb hr (rfl) hlocks dX3_count_34 (rfl)
set_option maxHeartbeats 4000000 in
set_option maxRecDepth 100000 in
theorem n_count_2 (l : Launch) (D : va_G) (cI cP cR : ClassId) (x t z rf rw pl hd ha lo ol as_ md : Nat) (T : Nat → Nat → Int32) (Z : Nat → Nat) (RF R P Hd HA Lo Ol AS : Nat → Int32) : pw_Mp l yX3_count wsX3_count ({ frames := 1, cells := 0, slots := 0, locals := 22 } : Room) D cI cP cR [.ref x, .int (nI 2)] ([(x, .inr (3, [.ref t, .ref z, .int (nI md), .ref rf, .ref rw, .ref pl, .ref hd, .ref ha, .ref lo, .ref ol, .ref as_])), (t, .inl (cI, 192, .inl (flT T))), (z, .inl (cI, 3, .inl (zI Z))), (rf, .inl (cI, 4, .inl (RF))), (rw, .inl (cI, 4, .inl (R))), (pl, .inl (cI, 4, .inl (P))), (hd, .inl (cI, 4, .inl (Hd))), (ha, .inl (cI, 4, .inl (HA))), (lo, .inl (cI, 4, .inl (Lo))), (ol, .inl (cI, 4, .inl (Ol))), (as_, .inl (cI, 64, .inl (AS)))]) (.int (RF 1)) := by
  refine pw_ofp (cc := cX3_count) (maxL := 2) (ret := (some .int)) (own := RX3) (by decide +kernel) rfl rfl (Nat.le_of_ble_eq_true rfl) ?_
  intro p_ e_ s m bel meth cd hE hK hP hD ls hl
  obtain ⟨hx, hb, hr, hml, hown, hts, hlocks⟩ := hE
  have hNW := hK.2
  have hl : lv_has ls 2 [(0, .ref x), (1, .int (nI 2))] := hl
  refine lv_iload_n hx hb dX3_count_0 rfl (lv_at hl 1 rfl) ?_
  refine lv_iconst (v := nI 0) hx hb dX3_count_1 (by decide) ?_
  refine lv_bipush (v := nI 6) hx hb dX3_count_2 (by decide) ?_
  -- m_in_t
  refine pw_cSp (As := [.int (nI 2), .int (nI 0), .int (nI 6)]) (rest := []) ⟨hx, hb, hml, hown, hts⟩ (m_in_t l D cI cP cR (nI 2) (nI 0) (nI 6) (⟨pw_ge0 (by omega), (pw_leN (by omega) (by omega)).mpr (by omega)⟩)) (va_cwS 3 hts gX3_count_X3_in rfl rfl rfl (by decide +kernel) ⟨Nat.le_of_ble_eq_true rfl, Nat.le_of_ble_eq_true rfl⟩) hK rfl hl.1 rfl (Nat.le_of_ble_eq_true rfl) dX3_count_4 ⟨Nat.zero_le _, Nat.zero_le _⟩ ?_
  refine lv_if_ne (tgt := 12) hx hb dX3_count_7 (by decide) (fun c => ?_) (fun c => absurd c (by decide))
  refine lv_iload_n hx hb dX3_count_12 rfl (lv_at hl 1 rfl) ?_
  refine lv_if_ne (tgt := 21) hx hb dX3_count_13 (by decide) (fun c => ?_) (fun c => absurd c (by decide))
  refine lv_iload_n hx hb dX3_count_21 rfl (lv_at hl 1 rfl) ?_
  refine lv_iconst (v := nI 5) hx hb dX3_count_22 (by decide) ?_
  refine lv_icmp_ge (tgt := 35) hx hb dX3_count_23 (by decide) (fun c => absurd c (by decide)) (fun c => ?_)
  refine lv_aload_n hx hb dX3_count_26 rfl (lv_at hl 0 rfl) ?_
  refine va_get (D := D) (ci := 3) (v := .ref rf) (C := RX3) (T := TX3) (N := 11) hx hb hts hi_X3_count_3 hown hK.1 hP 0 rfl rfl 3 (by decide) (hts _ hf_X3_count_16) (fun _ h9 => h9) rfl dX3_count_27 ?_
  refine lv_iload_n hx hb dX3_count_30 rfl (lv_at hl 1 rfl) ?_
  refine lv_iconst (v := nI 1) hx hb dX3_count_31 (by decide) ?_
  refine pw_isub hx hb (by omega) dX3_count_32 ?_
  refine pw_iald hx hb hK.1 hP 3 0 rfl rfl (by decide) (by omega) dX3_count_33 ?_
  exact pw_piret hx hb hr (rfl) hlocks dX3_count_34 (rfl)
set_option maxHeartbeats 4000000 in
set_option maxRecDepth 100000 in
theorem n_count_3 (l : Launch) (D : va_G) (cI cP cR : ClassId) (x t z rf rw pl hd ha lo ol as_ md : Nat) (T : Nat → Nat → Int32) (Z : Nat → Nat) (RF R P Hd HA Lo Ol AS : Nat → Int32) : pw_Mp l yX3_count wsX3_count ({ frames := 1, cells := 0, slots := 0, locals := 22 } : Room) D cI cP cR [.ref x, .int (nI 3)] ([(x, .inr (3, [.ref t, .ref z, .int (nI md), .ref rf, .ref rw, .ref pl, .ref hd, .ref ha, .ref lo, .ref ol, .ref as_])), (t, .inl (cI, 192, .inl (flT T))), (z, .inl (cI, 3, .inl (zI Z))), (rf, .inl (cI, 4, .inl (RF))), (rw, .inl (cI, 4, .inl (R))), (pl, .inl (cI, 4, .inl (P))), (hd, .inl (cI, 4, .inl (Hd))), (ha, .inl (cI, 4, .inl (HA))), (lo, .inl (cI, 4, .inl (Lo))), (ol, .inl (cI, 4, .inl (Ol))), (as_, .inl (cI, 64, .inl (AS)))]) (.int (RF 2)) := by
  refine pw_ofp (cc := cX3_count) (maxL := 2) (ret := (some .int)) (own := RX3) (by decide +kernel) rfl rfl (Nat.le_of_ble_eq_true rfl) ?_
  intro p_ e_ s m bel meth cd hE hK hP hD ls hl
  obtain ⟨hx, hb, hr, hml, hown, hts, hlocks⟩ := hE
  have hNW := hK.2
  have hl : lv_has ls 2 [(0, .ref x), (1, .int (nI 3))] := hl
  refine lv_iload_n hx hb dX3_count_0 rfl (lv_at hl 1 rfl) ?_
  refine lv_iconst (v := nI 0) hx hb dX3_count_1 (by decide) ?_
  refine lv_bipush (v := nI 6) hx hb dX3_count_2 (by decide) ?_
  -- m_in_t
  refine pw_cSp (As := [.int (nI 3), .int (nI 0), .int (nI 6)]) (rest := []) ⟨hx, hb, hml, hown, hts⟩ (m_in_t l D cI cP cR (nI 3) (nI 0) (nI 6) (⟨pw_ge0 (by omega), (pw_leN (by omega) (by omega)).mpr (by omega)⟩)) (va_cwS 3 hts gX3_count_X3_in rfl rfl rfl (by decide +kernel) ⟨Nat.le_of_ble_eq_true rfl, Nat.le_of_ble_eq_true rfl⟩) hK rfl hl.1 rfl (Nat.le_of_ble_eq_true rfl) dX3_count_4 ⟨Nat.zero_le _, Nat.zero_le _⟩ ?_
  refine lv_if_ne (tgt := 12) hx hb dX3_count_7 (by decide) (fun c => ?_) (fun c => absurd c (by decide))
  refine lv_iload_n hx hb dX3_count_12 rfl (lv_at hl 1 rfl) ?_
  refine lv_if_ne (tgt := 21) hx hb dX3_count_13 (by decide) (fun c => ?_) (fun c => absurd c (by decide))
  refine lv_iload_n hx hb dX3_count_21 rfl (lv_at hl 1 rfl) ?_
  refine lv_iconst (v := nI 5) hx hb dX3_count_22 (by decide) ?_
  refine lv_icmp_ge (tgt := 35) hx hb dX3_count_23 (by decide) (fun c => absurd c (by decide)) (fun c => ?_)
  refine lv_aload_n hx hb dX3_count_26 rfl (lv_at hl 0 rfl) ?_
  refine va_get (D := D) (ci := 3) (v := .ref rf) (C := RX3) (T := TX3) (N := 11) hx hb hts hi_X3_count_3 hown hK.1 hP 0 rfl rfl 3 (by decide) (hts _ hf_X3_count_16) (fun _ h9 => h9) rfl dX3_count_27 ?_
  refine lv_iload_n hx hb dX3_count_30 rfl (lv_at hl 1 rfl) ?_
  refine lv_iconst (v := nI 1) hx hb dX3_count_31 (by decide) ?_
  refine pw_isub hx hb (by omega) dX3_count_32 ?_
  refine pw_iald hx hb hK.1 hP 3 0 rfl rfl (by decide) (by omega) dX3_count_33 ?_
  exact pw_piret hx hb hr (rfl) hlocks dX3_count_34 (rfl)
set_option maxHeartbeats 4000000 in
set_option maxRecDepth 100000 in
theorem n_count_4 (l : Launch) (D : va_G) (cI cP cR : ClassId) (x t z rf rw pl hd ha lo ol as_ md : Nat) (T : Nat → Nat → Int32) (Z : Nat → Nat) (RF R P Hd HA Lo Ol AS : Nat → Int32) : pw_Mp l yX3_count wsX3_count ({ frames := 1, cells := 0, slots := 0, locals := 22 } : Room) D cI cP cR [.ref x, .int (nI 4)] ([(x, .inr (3, [.ref t, .ref z, .int (nI md), .ref rf, .ref rw, .ref pl, .ref hd, .ref ha, .ref lo, .ref ol, .ref as_])), (t, .inl (cI, 192, .inl (flT T))), (z, .inl (cI, 3, .inl (zI Z))), (rf, .inl (cI, 4, .inl (RF))), (rw, .inl (cI, 4, .inl (R))), (pl, .inl (cI, 4, .inl (P))), (hd, .inl (cI, 4, .inl (Hd))), (ha, .inl (cI, 4, .inl (HA))), (lo, .inl (cI, 4, .inl (Lo))), (ol, .inl (cI, 4, .inl (Ol))), (as_, .inl (cI, 64, .inl (AS)))]) (.int (RF 3)) := by
  refine pw_ofp (cc := cX3_count) (maxL := 2) (ret := (some .int)) (own := RX3) (by decide +kernel) rfl rfl (Nat.le_of_ble_eq_true rfl) ?_
  intro p_ e_ s m bel meth cd hE hK hP hD ls hl
  obtain ⟨hx, hb, hr, hml, hown, hts, hlocks⟩ := hE
  have hNW := hK.2
  have hl : lv_has ls 2 [(0, .ref x), (1, .int (nI 4))] := hl
  refine lv_iload_n hx hb dX3_count_0 rfl (lv_at hl 1 rfl) ?_
  refine lv_iconst (v := nI 0) hx hb dX3_count_1 (by decide) ?_
  refine lv_bipush (v := nI 6) hx hb dX3_count_2 (by decide) ?_
  -- m_in_t
  refine pw_cSp (As := [.int (nI 4), .int (nI 0), .int (nI 6)]) (rest := []) ⟨hx, hb, hml, hown, hts⟩ (m_in_t l D cI cP cR (nI 4) (nI 0) (nI 6) (⟨pw_ge0 (by omega), (pw_leN (by omega) (by omega)).mpr (by omega)⟩)) (va_cwS 3 hts gX3_count_X3_in rfl rfl rfl (by decide +kernel) ⟨Nat.le_of_ble_eq_true rfl, Nat.le_of_ble_eq_true rfl⟩) hK rfl hl.1 rfl (Nat.le_of_ble_eq_true rfl) dX3_count_4 ⟨Nat.zero_le _, Nat.zero_le _⟩ ?_
  refine lv_if_ne (tgt := 12) hx hb dX3_count_7 (by decide) (fun c => ?_) (fun c => absurd c (by decide))
  refine lv_iload_n hx hb dX3_count_12 rfl (lv_at hl 1 rfl) ?_
  refine lv_if_ne (tgt := 21) hx hb dX3_count_13 (by decide) (fun c => ?_) (fun c => absurd c (by decide))
  refine lv_iload_n hx hb dX3_count_21 rfl (lv_at hl 1 rfl) ?_
  refine lv_iconst (v := nI 5) hx hb dX3_count_22 (by decide) ?_
  refine lv_icmp_ge (tgt := 35) hx hb dX3_count_23 (by decide) (fun c => absurd c (by decide)) (fun c => ?_)
  refine lv_aload_n hx hb dX3_count_26 rfl (lv_at hl 0 rfl) ?_
  refine va_get (D := D) (ci := 3) (v := .ref rf) (C := RX3) (T := TX3) (N := 11) hx hb hts hi_X3_count_3 hown hK.1 hP 0 rfl rfl 3 (by decide) (hts _ hf_X3_count_16) (fun _ h9 => h9) rfl dX3_count_27 ?_
  refine lv_iload_n hx hb dX3_count_30 rfl (lv_at hl 1 rfl) ?_
  refine lv_iconst (v := nI 1) hx hb dX3_count_31 (by decide) ?_
  refine pw_isub hx hb (by omega) dX3_count_32 ?_
  refine pw_iald hx hb hK.1 hP 3 0 rfl rfl (by decide) (by omega) dX3_count_33 ?_
  exact pw_piret hx hb hr (rfl) hlocks dX3_count_34 (rfl)
set_option maxHeartbeats 4000000 in
set_option maxRecDepth 100000 in
theorem n_count_5 (l : Launch) (D : va_G) (cI cP cR : ClassId) (x t z rf rw pl hd ha lo ol as_ md : Nat) (T : Nat → Nat → Int32) (Z : Nat → Nat) (RF R P Hd HA Lo Ol AS : Nat → Int32) : pw_Mp l yX3_count wsX3_count ({ frames := 1, cells := 0, slots := 0, locals := 22 } : Room) D cI cP cR [.ref x, .int (nI 5)] ([(x, .inr (3, [.ref t, .ref z, .int (nI md), .ref rf, .ref rw, .ref pl, .ref hd, .ref ha, .ref lo, .ref ol, .ref as_])), (t, .inl (cI, 192, .inl (flT T))), (z, .inl (cI, 3, .inl (zI Z))), (rf, .inl (cI, 4, .inl (RF))), (rw, .inl (cI, 4, .inl (R))), (pl, .inl (cI, 4, .inl (P))), (hd, .inl (cI, 4, .inl (Hd))), (ha, .inl (cI, 4, .inl (HA))), (lo, .inl (cI, 4, .inl (Lo))), (ol, .inl (cI, 4, .inl (Ol))), (as_, .inl (cI, 64, .inl (AS)))]) (.int (nI (0 + (if R 0 = -1 then 0 else 1) + (if R 1 = -1 then 0 else 1) + (if R 2 = -1 then 0 else 1) + (if R 3 = -1 then 0 else 1)))) := by
  refine pw_ofp (cc := cX3_count) (maxL := 2) (ret := (some .int)) (own := RX3) (by decide +kernel) rfl rfl (Nat.le_of_ble_eq_true rfl) ?_
  intro p_ e_ s m bel meth cd hE hK hP hD ls hl
  obtain ⟨hx, hb, hr, hml, hown, hts, hlocks⟩ := hE
  have hNW := hK.2
  have hl : lv_has ls 2 [(0, .ref x), (1, .int (nI 5))] := hl
  refine lv_iload_n hx hb dX3_count_0 rfl (lv_at hl 1 rfl) ?_
  refine lv_iconst (v := nI 0) hx hb dX3_count_1 (by decide) ?_
  refine lv_bipush (v := nI 6) hx hb dX3_count_2 (by decide) ?_
  -- m_in_t
  refine pw_cSp (As := [.int (nI 5), .int (nI 0), .int (nI 6)]) (rest := []) ⟨hx, hb, hml, hown, hts⟩ (m_in_t l D cI cP cR (nI 5) (nI 0) (nI 6) (⟨pw_ge0 (by omega), (pw_leN (by omega) (by omega)).mpr (by omega)⟩)) (va_cwS 3 hts gX3_count_X3_in rfl rfl rfl (by decide +kernel) ⟨Nat.le_of_ble_eq_true rfl, Nat.le_of_ble_eq_true rfl⟩) hK rfl hl.1 rfl (Nat.le_of_ble_eq_true rfl) dX3_count_4 ⟨Nat.zero_le _, Nat.zero_le _⟩ ?_
  refine lv_if_ne (tgt := 12) hx hb dX3_count_7 (by decide) (fun c => ?_) (fun c => absurd c (by decide))
  refine lv_iload_n hx hb dX3_count_12 rfl (lv_at hl 1 rfl) ?_
  refine lv_if_ne (tgt := 21) hx hb dX3_count_13 (by decide) (fun c => ?_) (fun c => absurd c (by decide))
  refine lv_iload_n hx hb dX3_count_21 rfl (lv_at hl 1 rfl) ?_
  refine lv_iconst (v := nI 5) hx hb dX3_count_22 (by decide) ?_
  refine lv_icmp_ge (tgt := 35) hx hb dX3_count_23 (by decide) (fun c => ?_) (fun c => absurd c (by decide))
  refine lv_iload_n hx hb dX3_count_35 rfl (lv_at hl 1 rfl) ?_
  refine lv_iconst (v := nI 5) hx hb dX3_count_36 (by decide) ?_
  refine lv_icmp_ne (tgt := 47) hx hb dX3_count_37 (by decide) (fun c => absurd c (by decide)) (fun c => ?_)
  refine lv_aload_n hx hb dX3_count_40 rfl (lv_at hl 0 rfl) ?_
  -- m_standing
  refine pw_cVp (As := []) (rest := []) (wc := [(x, .inr (3, [.ref t, .ref z, .int (nI md), .ref rf, .ref rw, .ref pl, .ref hd, .ref ha, .ref lo, .ref ol, .ref as_])), (rw, .inl (cI, 4, .inl (R)))]) ⟨hx, hb, hml, hown, hts⟩ (m_standing l D cI cP cR x t z rf rw pl hd ha lo ol as_ md R) (cwV 0 hts gX3_count_X3_standing rfl rfl rfl (by decide +kernel) ⟨Nat.le_of_ble_eq_true rfl, Nat.le_of_ble_eq_true rfl⟩) hK hP hD [0, 4] rfl (by decide) 0 rfl rfl rfl rfl hl.1 rfl (Nat.le_of_ble_eq_true rfl) dX3_count_41 ⟨Nat.zero_le _, Nat.zero_le _⟩ ?_
  refine lv_goto (tgt := 74) hx hb dX3_count_44 (by decide) ?_
  exact pw_piret hx hb hr (rfl) hlocks dX3_count_74 (rfl)
theorem hf_X3_count_34 : Cond.fieldLink RX3 34 "PegrowModel" "isOld" "[I" ∈ wsX3_count := by decide +kernel
set_option maxHeartbeats 4000000 in
set_option maxRecDepth 100000 in
theorem n_count_6 (l : Launch) (D : va_G) (cI cP cR : ClassId) (x t z rf rw pl hd ha lo ol as_ md : Nat) (T : Nat → Nat → Int32) (Z : Nat → Nat) (RF R P Hd HA Lo Ol AS : Nat → Int32) : pw_Mp l yX3_count wsX3_count ({ frames := 1, cells := 0, slots := 0, locals := 22 } : Room) D cI cP cR [.ref x, .int (nI 6)] ([(x, .inr (3, [.ref t, .ref z, .int (nI md), .ref rf, .ref rw, .ref pl, .ref hd, .ref ha, .ref lo, .ref ol, .ref as_])), (t, .inl (cI, 192, .inl (flT T))), (z, .inl (cI, 3, .inl (zI Z))), (rf, .inl (cI, 4, .inl (RF))), (rw, .inl (cI, 4, .inl (R))), (pl, .inl (cI, 4, .inl (P))), (hd, .inl (cI, 4, .inl (Hd))), (ha, .inl (cI, 4, .inl (HA))), (lo, .inl (cI, 4, .inl (Lo))), (ol, .inl (cI, 4, .inl (Ol))), (as_, .inl (cI, 64, .inl (AS)))]) (.int (((Ol 0 + Ol 1) + Ol 2) + Ol 3)) := by
  refine pw_ofp (cc := cX3_count) (maxL := 2) (ret := (some .int)) (own := RX3) (by decide +kernel) rfl rfl (Nat.le_of_ble_eq_true rfl) ?_
  intro p_ e_ s m bel meth cd hE hK hP hD ls hl
  obtain ⟨hx, hb, hr, hml, hown, hts, hlocks⟩ := hE
  have hNW := hK.2
  have hl : lv_has ls 2 [(0, .ref x), (1, .int (nI 6))] := hl
  refine lv_iload_n hx hb dX3_count_0 rfl (lv_at hl 1 rfl) ?_
  refine lv_iconst (v := nI 0) hx hb dX3_count_1 (by decide) ?_
  refine lv_bipush (v := nI 6) hx hb dX3_count_2 (by decide) ?_
  -- m_in_t
  refine pw_cSp (As := [.int (nI 6), .int (nI 0), .int (nI 6)]) (rest := []) ⟨hx, hb, hml, hown, hts⟩ (m_in_t l D cI cP cR (nI 6) (nI 0) (nI 6) (⟨pw_ge0 (by omega), (pw_leN (by omega) (by omega)).mpr (by omega)⟩)) (va_cwS 3 hts gX3_count_X3_in rfl rfl rfl (by decide +kernel) ⟨Nat.le_of_ble_eq_true rfl, Nat.le_of_ble_eq_true rfl⟩) hK rfl hl.1 rfl (Nat.le_of_ble_eq_true rfl) dX3_count_4 ⟨Nat.zero_le _, Nat.zero_le _⟩ ?_
  refine lv_if_ne (tgt := 12) hx hb dX3_count_7 (by decide) (fun c => ?_) (fun c => absurd c (by decide))
  refine lv_iload_n hx hb dX3_count_12 rfl (lv_at hl 1 rfl) ?_
  refine lv_if_ne (tgt := 21) hx hb dX3_count_13 (by decide) (fun c => ?_) (fun c => absurd c (by decide))
  refine lv_iload_n hx hb dX3_count_21 rfl (lv_at hl 1 rfl) ?_
  refine lv_iconst (v := nI 5) hx hb dX3_count_22 (by decide) ?_
  refine lv_icmp_ge (tgt := 35) hx hb dX3_count_23 (by decide) (fun c => ?_) (fun c => absurd c (by decide))
  refine lv_iload_n hx hb dX3_count_35 rfl (lv_at hl 1 rfl) ?_
  refine lv_iconst (v := nI 5) hx hb dX3_count_36 (by decide) ?_
  refine lv_icmp_ne (tgt := 47) hx hb dX3_count_37 (by decide) (fun c => ?_) (fun c => absurd c (by decide))
  refine lv_aload_n hx hb dX3_count_47 rfl (lv_at hl 0 rfl) ?_
  refine va_get (D := D) (ci := 3) (v := .ref ol) (C := RX3) (T := TX3) (N := 11) hx hb hts hi_X3_count_3 hown hK.1 hP 0 rfl rfl 9 (by decide) (hts _ hf_X3_count_34) (fun _ h9 => h9) rfl dX3_count_48 ?_
  refine lv_iconst (v := nI 0) hx hb dX3_count_51 (by decide) ?_
  refine pw_iald hx hb hK.1 hP 9 0 rfl rfl (by decide) (by omega) dX3_count_52 ?_
  refine lv_aload_n hx hb dX3_count_53 rfl (lv_at hl 0 rfl) ?_
  refine va_get (D := D) (ci := 3) (v := .ref ol) (C := RX3) (T := TX3) (N := 11) hx hb hts hi_X3_count_3 hown hK.1 hP 0 rfl rfl 9 (by decide) (hts _ hf_X3_count_34) (fun _ h9 => h9) rfl dX3_count_54 ?_
  refine lv_iconst (v := nI 1) hx hb dX3_count_57 (by decide) ?_
  refine pw_iald hx hb hK.1 hP 9 0 rfl rfl (by decide) (by omega) dX3_count_58 ?_
  refine lv_iadd hx hb dX3_count_59 ?_
  refine lv_aload_n hx hb dX3_count_60 rfl (lv_at hl 0 rfl) ?_
  refine va_get (D := D) (ci := 3) (v := .ref ol) (C := RX3) (T := TX3) (N := 11) hx hb hts hi_X3_count_3 hown hK.1 hP 0 rfl rfl 9 (by decide) (hts _ hf_X3_count_34) (fun _ h9 => h9) rfl dX3_count_61 ?_
  refine lv_iconst (v := nI 2) hx hb dX3_count_64 (by decide) ?_
  refine pw_iald hx hb hK.1 hP 9 0 rfl rfl (by decide) (by omega) dX3_count_65 ?_
  refine lv_iadd hx hb dX3_count_66 ?_
  refine lv_aload_n hx hb dX3_count_67 rfl (lv_at hl 0 rfl) ?_
  refine va_get (D := D) (ci := 3) (v := .ref ol) (C := RX3) (T := TX3) (N := 11) hx hb hts hi_X3_count_3 hown hK.1 hP 0 rfl rfl 9 (by decide) (hts _ hf_X3_count_34) (fun _ h9 => h9) rfl dX3_count_68 ?_
  refine lv_iconst (v := nI 3) hx hb dX3_count_71 (by decide) ?_
  refine pw_iald hx hb hK.1 hP 9 0 rfl rfl (by decide) (by omega) dX3_count_72 ?_
  refine lv_iadd hx hb dX3_count_73 ?_
  exact pw_piret hx hb hr (rfl) hlocks dX3_count_74 (rfl)
set_option maxHeartbeats 4000000 in
set_option maxRecDepth 100000 in
theorem n_count_x (l : Launch) (D : va_G) (cI cP cR : ClassId) (x t z rf rw pl hd ha lo ol as_ md : Nat) (T : Nat → Nat → Int32) (Z : Nat → Nat) (RF R P Hd HA Lo Ol AS : Nat → Int32) (wh : Int32) (hbad : ¬ (0 ≤ wh ∧ wh ≤ nI 6)) : pw_Mp l yX3_count wsX3_count ({ frames := 1, cells := 0, slots := 0, locals := 22 } : Room) D cI cP cR [.ref x, .int (wh)] ([(x, .inr (3, [.ref t, .ref z, .int (nI md), .ref rf, .ref rw, .ref pl, .ref hd, .ref ha, .ref lo, .ref ol, .ref as_])), (t, .inl (cI, 192, .inl (flT T))), (z, .inl (cI, 3, .inl (zI Z))), (rf, .inl (cI, 4, .inl (RF))), (rw, .inl (cI, 4, .inl (R))), (pl, .inl (cI, 4, .inl (P))), (hd, .inl (cI, 4, .inl (Hd))), (ha, .inl (cI, 4, .inl (HA))), (lo, .inl (cI, 4, .inl (Lo))), (ol, .inl (cI, 4, .inl (Ol))), (as_, .inl (cI, 64, .inl (AS)))]) (.int (-1)) := by
  refine pw_ofp (cc := cX3_count) (maxL := 2) (ret := (some .int)) (own := RX3) (by decide +kernel) rfl rfl (Nat.le_of_ble_eq_true rfl) ?_
  intro p_ e_ s m bel meth cd hE hK hP hD ls hl
  obtain ⟨hx, hb, hr, hml, hown, hts, hlocks⟩ := hE
  have hNW := hK.2
  have hl : lv_has ls 2 [(0, .ref x), (1, .int (wh))] := hl
  refine lv_iload_n hx hb dX3_count_0 rfl (lv_at hl 1 rfl) ?_
  refine lv_iconst (v := nI 0) hx hb dX3_count_1 (by decide) ?_
  refine lv_bipush (v := nI 6) hx hb dX3_count_2 (by decide) ?_
  -- m_in_f
  refine pw_cSp (As := [.int (wh), .int (nI 0), .int (nI 6)]) (rest := []) ⟨hx, hb, hml, hown, hts⟩ (m_in_f l D cI cP cR wh (nI 0) (nI 6) (hbad)) (va_cwS 3 hts gX3_count_X3_in rfl rfl rfl (by decide +kernel) ⟨Nat.le_of_ble_eq_true rfl, Nat.le_of_ble_eq_true rfl⟩) hK rfl hl.1 rfl (Nat.le_of_ble_eq_true rfl) dX3_count_4 ⟨Nat.zero_le _, Nat.zero_le _⟩ ?_
  refine lv_if_ne (tgt := 12) hx hb dX3_count_7 (by decide) (fun c => absurd c (by decide)) (fun c => ?_)
  refine lv_iconst (v := -1) hx hb dX3_count_10 (by decide) ?_
  exact pw_piret hx hb hr (rfl) hlocks dX3_count_11 (rfl)
