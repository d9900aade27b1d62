set_option maxHeartbeats 4000000 in
set_option maxRecDepth 100000 in
theorem n_put_x (l : Launch) (D : va_G) (cI cP cR : ClassId) (x t z rf rw pl hd ha lo ol as_ md : Nat) (T : Nat → Nat → Int32) (Z : Nat → Nat) (RF R P Hd HA Lo Ol AS : Nat → Int32) (row name la way : Int32) (hbad : ¬ ((0 ≤ row ∧ row < nI 3) ∧ (0 ≤ name ∧ name < nI 10) ∧ (0 ≤ way ∧ way ≤ nI 2))) : pw_Mp l yX3_put wsX3_put ({ frames := 2, cells := 0, slots := 0, locals := 47 } : Room) D cI cP cR [.ref x, .int (row), .int (name), .int (la), .int (way)] ([(x, .inr (3, [.ref t, .ref z, .int (nI md), .ref rf, .ref rw, .ref pl, .ref hd, .ref ha, .ref lo, .ref ol, .ref as_])), (t, .inl (cI, 192, .inl (flT T))), (z, .inl (cI, 3, .inl (zI Z))), (rf, .inl (cI, 4, .inl (RF))), (rw, .inl (cI, 4, .inl (R))), (pl, .inl (cI, 4, .inl (P))), (hd, .inl (cI, 4, .inl (Hd))), (ha, .inl (cI, 4, .inl (HA))), (lo, .inl (cI, 4, .inl (Lo))), (ol, .inl (cI, 4, .inl (Ol))), (as_, .inl (cI, 64, .inl (AS)))]) (.int (-1)) := by
  refine pw_ofp (cc := cX3_put) (maxL := 5) (ret := (some .int)) (own := RX3) (by decide +kernel) rfl rfl (Nat.le_of_ble_eq_true rfl) ?_
  intro p_ e_ s m bel meth cd hE hK hP hD ls hl
  obtain ⟨hx, hb, hr, hml, hown, hts, hlocks⟩ := hE
  have hNW := hK.2
  have hl : lv_has ls 5 [(0, .ref x), (1, .int (row)), (2, .int (name)), (3, .int (la)), (4, .int (way))] := hl
  by_cases hx_row : 0 ≤ row ∧ row < nI 3
  · obtain ⟨rj_1, hrj_1, rfl⟩ := pw_inP (by decide) hx_row
    by_cases hx_name : 0 ≤ name ∧ name < nI 10
    · obtain ⟨nj_2, hnj_2, rfl⟩ := pw_inP (by decide) hx_name
      refine lv_iload_n hx hb dX3_put_0 rfl (lv_at hl 1 rfl) ?_
      -- m_isRow_t
      refine pw_cSp (As := [.int (nI rj_1)]) (rest := []) ⟨hx, hb, hml, hown, hts⟩ (m_isRow_t l D cI cP cR rj_1 (by omega)) (va_cwS 1 hts gX3_put_X3_isRow rfl rfl rfl (by decide +kernel) ⟨Nat.le_of_ble_eq_true rfl, Nat.le_of_ble_eq_true rfl⟩) hK rfl hl.1 rfl (Nat.le_of_ble_eq_true rfl) dX3_put_1 ⟨Nat.zero_le _, Nat.zero_le _⟩ ?_
      refine lv_if_eq (tgt := 24) hx hb dX3_put_4 (by decide) (fun c => absurd c (by decide)) (fun c => ?_)
      refine lv_iload_n hx hb dX3_put_7 rfl (lv_at hl 2 rfl) ?_
      -- m_isName_t
      refine pw_cSp (As := [.int (nI nj_2)]) (rest := []) ⟨hx, hb, hml, hown, hts⟩ (m_isName_t l D cI cP cR nj_2 (by omega)) (va_cwS 1 hts gX3_put_X3_isName rfl rfl rfl (by decide +kernel) ⟨Nat.le_of_ble_eq_true rfl, Nat.le_of_ble_eq_true rfl⟩) hK rfl hl.1 rfl (Nat.le_of_ble_eq_true rfl) dX3_put_8 ⟨Nat.zero_le _, Nat.zero_le _⟩ ?_
      refine lv_if_eq (tgt := 24) hx hb dX3_put_11 (by decide) (fun c => absurd c (by decide)) (fun c => ?_)
      refine lv_iload hx hb dX3_put_14 (lv_at hl 4 rfl) ?_
      refine lv_iconst (v := nI 0) hx hb dX3_put_16 (by decide) ?_
      refine lv_iconst (v := nI 2) hx hb dX3_put_17 (by decide) ?_
      -- m_in_f
      refine pw_cSp (As := [.int (way), .int (nI 0), .int (nI 2)]) (rest := []) ⟨hx, hb, hml, hown, hts⟩ (m_in_f l D cI cP cR way (nI 0) (nI 2) (fun h => hbad ⟨hx_row, hx_name, h⟩)) (va_cwS 3 hts gX3_put_X3_in rfl rfl rfl (by decide +kernel) ⟨Nat.le_of_ble_eq_true rfl, Nat.le_of_ble_eq_true rfl⟩) hK rfl hl.1 rfl (Nat.le_of_ble_eq_true rfl) dX3_put_18 ⟨Nat.zero_le _, Nat.zero_le _⟩ ?_
      refine lv_if_ne (tgt := 26) hx hb dX3_put_21 (by decide) (fun c => absurd c (by decide)) (fun c => ?_)
      refine lv_iconst (v := -1) hx hb dX3_put_24 (by decide) ?_
      exact pw_piret hx hb hr (rfl) hlocks dX3_put_25 (rfl)
    · have _h := hx_name
      refine lv_iload_n hx hb dX3_put_0 rfl (lv_at hl 1 rfl) ?_
      -- m_isRow_t
      refine pw_cSp (As := [.int (nI rj_1)]) (rest := []) ⟨hx, hb, hml, hown, hts⟩ (m_isRow_t l D cI cP cR rj_1 (by omega)) (va_cwS 1 hts gX3_put_X3_isRow rfl rfl rfl (by decide +kernel) ⟨Nat.le_of_ble_eq_true rfl, Nat.le_of_ble_eq_true rfl⟩) hK rfl hl.1 rfl (Nat.le_of_ble_eq_true rfl) dX3_put_1 ⟨Nat.zero_le _, Nat.zero_le _⟩ ?_
      refine lv_if_eq (tgt := 24) hx hb dX3_put_4 (by decide) (fun c => absurd c (by decide)) (fun c => ?_)
      refine lv_iload_n hx hb dX3_put_7 rfl (lv_at hl 2 rfl) ?_
      -- m_isName_f
      refine pw_cSp (As := [.int (name)]) (rest := []) ⟨hx, hb, hml, hown, hts⟩ (m_isName_f l D cI cP cR name hx_name) (va_cwS 1 hts gX3_put_X3_isName rfl rfl rfl (by decide +kernel) ⟨Nat.le_of_ble_eq_true rfl, Nat.le_of_ble_eq_true rfl⟩) hK rfl hl.1 rfl (Nat.le_of_ble_eq_true rfl) dX3_put_8 ⟨Nat.zero_le _, Nat.zero_le _⟩ ?_
      refine lv_if_eq (tgt := 24) hx hb dX3_put_11 (by decide) (fun c => ?_) (fun c => absurd c (by decide))
      refine lv_iconst (v := -1) hx hb dX3_put_24 (by decide) ?_
      exact pw_piret hx hb hr (rfl) hlocks dX3_put_25 (rfl)
  · have _h := hx_row
    refine lv_iload_n hx hb dX3_put_0 rfl (lv_at hl 1 rfl) ?_
    -- m_isRow_f
    refine pw_cSp (As := [.int (row)]) (rest := []) ⟨hx, hb, hml, hown, hts⟩ (m_isRow_f l D cI cP cR row hx_row) (va_cwS 1 hts gX3_put_X3_isRow rfl rfl rfl (by decide +kernel) ⟨Nat.le_of_ble_eq_true rfl, Nat.le_of_ble_eq_true rfl⟩) hK rfl hl.1 rfl (Nat.le_of_ble_eq_true rfl) dX3_put_1 ⟨Nat.zero_le _, Nat.zero_le _⟩ ?_
    refine lv_if_eq (tgt := 24) hx hb dX3_put_4 (by decide) (fun c => ?_) (fun c => absurd c (by decide))
    refine lv_iconst (v := -1) hx hb dX3_put_24 (by decide) ?_
    exact pw_piret hx hb hr (rfl) hlocks dX3_put_25 (rfl)
theorem hi_X3_put_3 : ∀ w ∈ u_ws RX3 TX3 11, w ∈ wsX3_put := by decide +kernel
theorem hf_X3_put_13 : Cond.fieldLink RX3 13 "PegrowModel" "sizes" "[I" ∈ wsX3_put := by decide +kernel
set_option maxHeartbeats 4000000 in
set_option maxRecDepth 100000 in
theorem n_put_f (l : Launch) (D : va_G) (cI cP cR : ClassId) (x t z rf rw pl hd ha lo ol as_ md : Nat) (T : Nat → Nat → Int32) (Z : Nat → Nat) (RF R P Hd HA Lo Ol AS : Nat → Int32) (i : Nat) (hi : i < 3) (hz : Z i ≤ 60) (nm wy : Nat) (la : Int32) (hnm : nm < 10) (hw : wy ≤ 2) (hf : Z i = 60) : pw_Mp l yX3_put wsX3_put ({ frames := 2, cells := 0, slots := 0, locals := 47 } : Room) D cI cP cR [.ref x, .int (nI i), .int (nI nm), .int (la), .int (nI wy)] ([(x, .inr (3, [.ref t, .ref z, .int (nI md), .ref rf, .ref rw, .ref pl, .ref hd, .ref ha, .ref lo, .ref ol, .ref as_])), (t, .inl (cI, 192, .inl (flT T))), (z, .inl (cI, 3, .inl (zI Z))), (rf, .inl (cI, 4, .inl (RF))), (rw, .inl (cI, 4, .inl (R))), (pl, .inl (cI, 4, .inl (P))), (hd, .inl (cI, 4, .inl (Hd))), (ha, .inl (cI, 4, .inl (HA))), (lo, .inl (cI, 4, .inl (Lo))), (ol, .inl (cI, 4, .inl (Ol))), (as_, .inl (cI, 64, .inl (AS)))]) (.int (-3)) := by
  refine pw_ofp (cc := cX3_put) (maxL := 5) (ret := (some .int)) (own := RX3) (by decide +kernel) rfl rfl (Nat.le_of_ble_eq_true rfl) ?_
  intro p_ e_ s m bel meth cd hE hK hP hD ls hl
  obtain ⟨hx, hb, hr, hml, hown, hts, hlocks⟩ := hE
  have hNW := hK.2
  have hl : lv_has ls 5 [(0, .ref x), (1, .int (nI i)), (2, .int (nI nm)), (3, .int (la)), (4, .int (nI wy))] := hl
  refine lv_iload_n hx hb dX3_put_0 rfl (lv_at hl 1 rfl) ?_
  -- m_isRow_t
  refine pw_cSp (As := [.int (nI i)]) (rest := []) ⟨hx, hb, hml, hown, hts⟩ (m_isRow_t l D cI cP cR i (by omega)) (va_cwS 1 hts gX3_put_X3_isRow rfl rfl rfl (by decide +kernel) ⟨Nat.le_of_ble_eq_true rfl, Nat.le_of_ble_eq_true rfl⟩) hK rfl hl.1 rfl (Nat.le_of_ble_eq_true rfl) dX3_put_1 ⟨Nat.zero_le _, Nat.zero_le _⟩ ?_
  refine lv_if_eq (tgt := 24) hx hb dX3_put_4 (by decide) (fun c => absurd c (by decide)) (fun c => ?_)
  refine lv_iload_n hx hb dX3_put_7 rfl (lv_at hl 2 rfl) ?_
  -- m_isName_t
  refine pw_cSp (As := [.int (nI nm)]) (rest := []) ⟨hx, hb, hml, hown, hts⟩ (m_isName_t l D cI cP cR nm (by omega)) (va_cwS 1 hts gX3_put_X3_isName rfl rfl rfl (by decide +kernel) ⟨Nat.le_of_ble_eq_true rfl, Nat.le_of_ble_eq_true rfl⟩) hK rfl hl.1 rfl (Nat.le_of_ble_eq_true rfl) dX3_put_8 ⟨Nat.zero_le _, Nat.zero_le _⟩ ?_
  refine lv_if_eq (tgt := 24) hx hb dX3_put_11 (by decide) (fun c => absurd c (by decide)) (fun c => ?_)
  refine lv_iload hx hb dX3_put_14 (lv_at hl 4 rfl) ?_
  refine lv_iconst (v := nI 0) hx hb dX3_put_16 (by decide) ?_
  refine lv_iconst (v := nI 2) hx hb dX3_put_17 (by decide) ?_
  -- m_in_t
  refine pw_cSp (As := [.int (nI wy), .int (nI 0), .int (nI 2)]) (rest := []) ⟨hx, hb, hml, hown, hts⟩ (m_in_t l D cI cP cR (nI wy) (nI 0) (nI 2) (⟨pw_ge0 (by omega), (pw_leN (by omega) (by omega)).mpr (by omega)⟩)) (va_cwS 3 hts gX3_put_X3_in rfl rfl rfl (by decide +kernel) ⟨Nat.le_of_ble_eq_true rfl, Nat.le_of_ble_eq_true rfl⟩) hK rfl hl.1 rfl (Nat.le_of_ble_eq_true rfl) dX3_put_18 ⟨Nat.zero_le _, Nat.zero_le _⟩ ?_
  refine lv_if_ne (tgt := 26) hx hb dX3_put_21 (by decide) (fun c => ?_) (fun c => absurd c (by decide))
  refine lv_aload_n hx hb dX3_put_26 rfl (lv_at hl 0 rfl) ?_
  refine va_get (D := D) (ci := 3) (v := .ref z) (C := RX3) (T := TX3) (N := 11) hx hb hts hi_X3_put_3 hown hK.1 hP 0 rfl rfl 1 (by decide) (hts _ hf_X3_put_13) (fun _ h9 => h9) rfl dX3_put_27 ?_
  refine lv_iload_n hx hb dX3_put_30 rfl (lv_at hl 1 rfl) ?_
  refine pw_iald hx hb hK.1 hP 2 0 rfl rfl (by decide) (by omega) dX3_put_31 ?_
  refine pw_top (y := nI (Z i)) rfl ?_
  refine lv_bipush (v := nI 60) hx hb dX3_put_32 (by decide) ?_
  refine pw_icmp_ne (tgt := 40) hx hb (by omega) (by omega) dX3_put_34 (by decide) (fun c_1 => ?_) (fun c_1 => ?_)
  · exact absurd hf c_1
  · have _h := c_1
    refine lv_bipush (v := -3) hx hb dX3_put_37 (by decide) ?_
    exact pw_piret hx hb hr (rfl) hlocks dX3_put_39 (rfl)
set_option maxHeartbeats 4000000 in
set_option maxRecDepth 100000 in
theorem n_put (l : Launch) (D : va_G) (cI cP cR : ClassId) (x t z rf rw pl hd ha lo ol as_ md : Nat) (T : Nat → Nat → Int32) (Z : Nat → Nat) (RF R P Hd HA Lo Ol AS : Nat → Int32) (i : Nat) (hi : i < 3) (hz : Z i ≤ 60) (nm wy : Nat) (la : Int32) (hnm : nm < 10) (hw : wy ≤ 2) (hf : Z i < 60) : pw_Mm l yX3_put wsX3_put ({ frames := 2, cells := 0, slots := 0, locals := 47 } : Room) D cI cP cR [.ref x, .int (nI i), .int (nI nm), .int (la), .int (nI wy)] ([(x, .inr (3, [.ref t, .ref z, .int (nI md), .ref rf, .ref rw, .ref pl, .ref hd, .ref ha, .ref lo, .ref ol, .ref as_])), (t, .inl (cI, 192, .inl (flT T))), (z, .inl (cI, 3, .inl (zI Z))), (rf, .inl (cI, 4, .inl (RF))), (rw, .inl (cI, 4, .inl (R))), (pl, .inl (cI, 4, .inl (P))), (hd, .inl (cI, 4, .inl (Hd))), (ha, .inl (cI, 4, .inl (HA))), (lo, .inl (cI, 4, .inl (Lo))), (ol, .inl (cI, 4, .inl (Ol))), (as_, .inl (cI, 64, .inl (AS)))]) (fun v w => v = some (.int (nI (Z i + 1))) ∧ w = [(x, .inr (3, [.ref t, .ref z, .int (nI (md + 1)), .ref rf, .ref rw, .ref pl, .ref hd, .ref ha, .ref lo, .ref ol, .ref as_])), (t, .inl (cI, 192, .inl (flT (upR T i (upd (opn (T i) (plF la (Z i)) 1 (Z i)) (plF la (Z i)) (nI ((md * 10) + nm))))))), (z, .inl (cI, 3, .inl (zI (updN Z i (Z i + 1))))), (rf, .inl (cI, 4, .inl (RF))), (rw, .inl (cI, 4, .inl (R))), (pl, .inl (cI, 4, .inl (P))), (hd, .inl (cI, 4, .inl (Hd))), (ha, .inl (cI, 4, .inl (HA))), (lo, .inl (cI, 4, .inl (Lo))), (ol, .inl (cI, 4, .inl (agF R Ol (nI i) (-1)))), (as_, .inl (cI, 64, .inl (AS)))]) := by
  refine pw_ofm (cc := cX3_put) (maxL := 5) (ret := (some .int)) (own := RX3) (by decide +kernel) rfl rfl (Nat.le_of_ble_eq_true rfl) ?_
  intro p_ e_ s m bel meth cd A hE hK hP hD hA hS ls hl
  obtain ⟨hx, hb, hr, hml, hown, hts, hlocks⟩ := hE
  have hNW := hK.2
  have hl : lv_has ls 5 [(0, .ref x), (1, .int (nI i)), (2, .int (nI nm)), (3, .int (la)), (4, .int (nI wy))] := hl
  refine lv_iload_n hx hb dX3_put_0 rfl (lv_at hl 1 rfl) ?_
  -- m_isRow_t
  refine pw_cSp (As := [.int (nI i)]) (rest := []) ⟨hx, hb, hml, hown, hts⟩ (m_isRow_t l D cI cP cR i (by omega)) (va_cwS 1 hts gX3_put_X3_isRow rfl rfl rfl (by decide +kernel) ⟨Nat.le_of_ble_eq_true rfl, Nat.le_of_ble_eq_true rfl⟩) hK rfl hl.1 rfl (Nat.le_of_ble_eq_true rfl) dX3_put_1 ⟨Nat.zero_le _, Nat.zero_le _⟩ ?_
  refine lv_if_eq (tgt := 24) hx hb dX3_put_4 (by decide) (fun c => absurd c (by decide)) (fun c => ?_)
  refine lv_iload_n hx hb dX3_put_7 rfl (lv_at hl 2 rfl) ?_
  -- m_isName_t
  refine pw_cSp (As := [.int (nI nm)]) (rest := []) ⟨hx, hb, hml, hown, hts⟩ (m_isName_t l D cI cP cR nm (by omega)) (va_cwS 1 hts gX3_put_X3_isName rfl rfl rfl (by decide +kernel) ⟨Nat.le_of_ble_eq_true rfl, Nat.le_of_ble_eq_true rfl⟩) hK rfl hl.1 rfl (Nat.le_of_ble_eq_true rfl) dX3_put_8 ⟨Nat.zero_le _, Nat.zero_le _⟩ ?_
  refine lv_if_eq (tgt := 24) hx hb dX3_put_11 (by decide) (fun c => absurd c (by decide)) (fun c => ?_)
  refine lv_iload hx hb dX3_put_14 (lv_at hl 4 rfl) ?_
  refine lv_iconst (v := nI 0) hx hb dX3_put_16 (by decide) ?_
  refine lv_iconst (v := nI 2) hx hb dX3_put_17 (by decide) ?_
  -- m_in_t
  refine pw_cSp (As := [.int (nI wy), .int (nI 0), .int (nI 2)]) (rest := []) ⟨hx, hb, hml, hown, hts⟩ (m_in_t l D cI cP cR (nI wy) (nI 0) (nI 2) (⟨pw_ge0 (by omega), (pw_leN (by omega) (by omega)).mpr (by omega)⟩)) (va_cwS 3 hts gX3_put_X3_in rfl rfl rfl (by decide +kernel) ⟨Nat.le_of_ble_eq_true rfl, Nat.le_of_ble_eq_true rfl⟩) hK rfl hl.1 rfl (Nat.le_of_ble_eq_true rfl) dX3_put_18 ⟨Nat.zero_le _, Nat.zero_le _⟩ ?_
  refine lv_if_ne (tgt := 26) hx hb dX3_put_21 (by decide) (fun c => ?_) (fun c => absurd c (by decide))
  refine lv_aload_n hx hb dX3_put_26 rfl (lv_at hl 0 rfl) ?_
  refine va_get (D := D) (ci := 3) (v := .ref z) (C := RX3) (T := TX3) (N := 11) hx hb hts hi_X3_put_3 hown hK.1 hP 0 rfl rfl 1 (by decide) (hts _ hf_X3_put_13) (fun _ h9 => h9) rfl dX3_put_27 ?_
  refine lv_iload_n hx hb dX3_put_30 rfl (lv_at hl 1 rfl) ?_
  refine pw_iald hx hb hK.1 hP 2 0 rfl rfl (by decide) (by omega) dX3_put_31 ?_
  refine pw_top (y := nI (Z i)) rfl ?_
  refine lv_bipush (v := nI 60) hx hb dX3_put_32 (by decide) ?_
  refine pw_icmp_ne (tgt := 40) hx hb (by omega) (by omega) dX3_put_34 (by decide) (fun c_1 => ?_) (fun c_1 => ?_)
  · have _h := c_1
    refine lv_aload_n hx hb dX3_put_40 rfl (lv_at hl 0 rfl) ?_
    refine lv_iload_n hx hb dX3_put_41 rfl (lv_at hl 1 rfl) ?_
    refine lv_iload_n hx hb dX3_put_42 rfl (lv_at hl 3 rfl) ?_
    refine lv_if_eq (tgt := 55) hx hb dX3_put_43 (by decide) (fun c_2 => ?_) (fun c_2 => ?_)
    · have _h := c_2
      refine lv_iconst (v := nI 0) hx hb dX3_put_55 (by decide) ?_
      refine lv_aload_n hx hb dX3_put_56 rfl (lv_at hl 0 rfl) ?_
      refine lv_iload_n hx hb dX3_put_57 rfl (lv_at hl 2 rfl) ?_
      -- m_make
      refine pw_cVm (As := [.int (nI nm)]) (rest := [.int (nI 0), .int (nI i), .ref x]) (wc := [(x, .inr (3, [.ref t, .ref z, .int (nI md), .ref rf, .ref rw, .ref pl, .ref hd, .ref ha, .ref lo, .ref ol, .ref as_]))]) (wr := [(t, .inl (cI, 192, .inl (flT T))), (z, .inl (cI, 3, .inl (zI Z))), (rf, .inl (cI, 4, .inl (RF))), (rw, .inl (cI, 4, .inl (R))), (pl, .inl (cI, 4, .inl (P))), (hd, .inl (cI, 4, .inl (Hd))), (ha, .inl (cI, 4, .inl (HA))), (lo, .inl (cI, 4, .inl (Lo))), (ol, .inl (cI, 4, .inl (Ol))), (as_, .inl (cI, 64, .inl (AS)))]) ⟨hx, hb, hml, hown, hts⟩ (m_make l D cI cP cR x t z rf rw pl hd ha lo ol as_ md nm) (cwV 1 hts gX3_put_X3_make rfl rfl rfl (by decide +kernel) ⟨Nat.le_of_ble_eq_true rfl, Nat.le_of_ble_eq_true rfl⟩) hK hP hD hS hA [0] [1, 2, 3, 4, 5, 6, 7, 8, 9, 10] rfl rfl (by decide) (by decide) (by decide) 0 rfl rfl rfl rfl hl.1 rfl (Nat.le_of_ble_eq_true rfl) dX3_put_58 ⟨Nat.zero_le _, Nat.zero_le _⟩ (fun v1 w1 H locs hq hP hD hS => ?_)
      rcases hq with ⟨rfl, rfl⟩
      have hP : va_P D vwCl ([(t, .inl (cI, 192, .inl (flT T))), (z, .inl (cI, 3, .inl (zI Z))), (rf, .inl (cI, 4, .inl (RF))), (rw, .inl (cI, 4, .inl (R))), (pl, .inl (cI, 4, .inl (P))), (hd, .inl (cI, 4, .inl (Hd))), (ha, .inl (cI, 4, .inl (HA))), (lo, .inl (cI, 4, .inl (Lo))), (ol, .inl (cI, 4, .inl (Ol))), (as_, .inl (cI, 64, .inl (AS))), (x, .inr (3, [.ref t, .ref z, .int (nI (md + 1)), .ref rf, .ref rw, .ref pl, .ref hd, .ref ha, .ref lo, .ref ol, .ref as_]))]) H := hP
      have hD : va_D A ([(t, .inl (cI, 192, .inl (flT T))), (z, .inl (cI, 3, .inl (zI Z))), (rf, .inl (cI, 4, .inl (RF))), (rw, .inl (cI, 4, .inl (R))), (pl, .inl (cI, 4, .inl (P))), (hd, .inl (cI, 4, .inl (Hd))), (ha, .inl (cI, 4, .inl (HA))), (lo, .inl (cI, 4, .inl (Lo))), (ol, .inl (cI, 4, .inl (Ol))), (as_, .inl (cI, 64, .inl (AS))), (x, .inr (3, [.ref t, .ref z, .int (nI (md + 1)), .ref rf, .ref rw, .ref pl, .ref hd, .ref ha, .ref lo, .ref ol, .ref as_]))]) := hD
      refine W.eq (g2 := F0 m 61 ls [.int (nI ((md * 10) + nm)), .int (nI 0), .int (nI i), .ref x]) rfl ?_
      -- m_open
      refine pw_cVm (As := [.int (nI i), .int (nI 0), .int (nI ((md * 10) + nm))]) (rest := []) (wc := [(x, .inr (3, [.ref t, .ref z, .int (nI (md + 1)), .ref rf, .ref rw, .ref pl, .ref hd, .ref ha, .ref lo, .ref ol, .ref as_])), (t, .inl (cI, 192, .inl (flT T))), (z, .inl (cI, 3, .inl (zI Z)))]) (wr := [(rf, .inl (cI, 4, .inl (RF))), (rw, .inl (cI, 4, .inl (R))), (pl, .inl (cI, 4, .inl (P))), (hd, .inl (cI, 4, .inl (Hd))), (ha, .inl (cI, 4, .inl (HA))), (lo, .inl (cI, 4, .inl (Lo))), (ol, .inl (cI, 4, .inl (Ol))), (as_, .inl (cI, 64, .inl (AS)))]) ⟨hx, hb, hml, hown, hts⟩ (m_open l D cI cP cR x t z rf rw pl hd ha lo ol as_ (md + 1) T Z i 0 (nI ((md * 10) + nm)) (by omega) (by omega) (by omega)) (cwV 3 hts gX3_put_X3_open rfl rfl rfl (by decide +kernel) ⟨Nat.le_of_ble_eq_true rfl, Nat.le_of_ble_eq_true rfl⟩) hK hP hD hS hA [10, 0, 1] [2, 3, 4, 5, 6, 7, 8, 9] rfl rfl (by decide) (by decide) (by decide) 0 rfl rfl rfl rfl hl.1 rfl (Nat.le_of_ble_eq_true rfl) dX3_put_61 ⟨Nat.zero_le _, Nat.zero_le _⟩ (fun v1 w1 H locs hq hP hD hS => ?_)
      rcases hq with ⟨rfl, rfl⟩
      have hP : va_P D vwCl ([(rf, .inl (cI, 4, .inl (RF))), (rw, .inl (cI, 4, .inl (R))), (pl, .inl (cI, 4, .inl (P))), (hd, .inl (cI, 4, .inl (Hd))), (ha, .inl (cI, 4, .inl (HA))), (lo, .inl (cI, 4, .inl (Lo))), (ol, .inl (cI, 4, .inl (Ol))), (as_, .inl (cI, 64, .inl (AS))), (x, .inr (3, [.ref t, .ref z, .int (nI (md + 1)), .ref rf, .ref rw, .ref pl, .ref hd, .ref ha, .ref lo, .ref ol, .ref as_])), (t, .inl (cI, 192, .inl (flT (upR T i (upd (opn (T i) 0 1 (Z i)) 0 (nI ((md * 10) + nm))))))), (z, .inl (cI, 3, .inl (zI (updN Z i (Z i + 1)))))]) H := hP
      have hD : va_D A ([(rf, .inl (cI, 4, .inl (RF))), (rw, .inl (cI, 4, .inl (R))), (pl, .inl (cI, 4, .inl (P))), (hd, .inl (cI, 4, .inl (Hd))), (ha, .inl (cI, 4, .inl (HA))), (lo, .inl (cI, 4, .inl (Lo))), (ol, .inl (cI, 4, .inl (Ol))), (as_, .inl (cI, 64, .inl (AS))), (x, .inr (3, [.ref t, .ref z, .int (nI (md + 1)), .ref rf, .ref rw, .ref pl, .ref hd, .ref ha, .ref lo, .ref ol, .ref as_])), (t, .inl (cI, 192, .inl (flT (upR T i (upd (opn (T i) 0 1 (Z i)) 0 (nI ((md * 10) + nm))))))), (z, .inl (cI, 3, .inl (zI (updN Z i (Z i + 1)))))]) := hD
      refine W.eq (g2 := F0 m 64 ls []) rfl ?_
      refine lv_aload_n hx hb dX3_put_64 rfl (lv_at hl 0 rfl) ?_
      refine lv_iload_n hx hb dX3_put_65 rfl (lv_at hl 1 rfl) ?_
      refine lv_iconst (v := -1) hx hb dX3_put_66 (by decide) ?_
      -- m_age
      refine pw_cVm (As := [.int (nI i), .int (-1)]) (rest := []) (wc := [(x, .inr (3, [.ref t, .ref z, .int (nI (md + 1)), .ref rf, .ref rw, .ref pl, .ref hd, .ref ha, .ref lo, .ref ol, .ref as_])), (rw, .inl (cI, 4, .inl (R))), (ol, .inl (cI, 4, .inl (Ol)))]) (wr := [(rf, .inl (cI, 4, .inl (RF))), (pl, .inl (cI, 4, .inl (P))), (hd, .inl (cI, 4, .inl (Hd))), (ha, .inl (cI, 4, .inl (HA))), (lo, .inl (cI, 4, .inl (Lo))), (as_, .inl (cI, 64, .inl (AS))), (t, .inl (cI, 192, .inl (flT (upR T i (upd (opn (T i) 0 1 (Z i)) 0 (nI ((md * 10) + nm))))))), (z, .inl (cI, 3, .inl (zI (updN Z i (Z i + 1)))))]) ⟨hx, hb, hml, hown, hts⟩ (m_age l D cI cP cR x t z rf rw pl hd ha lo ol as_ (md + 1) R Ol i (-1)) (cwV 2 hts gX3_put_X3_age rfl rfl rfl (by decide +kernel) ⟨Nat.le_of_ble_eq_true rfl, Nat.le_of_ble_eq_true rfl⟩) hK hP hD hS hA [8, 1, 6] [0, 2, 3, 4, 5, 7, 9, 10] rfl rfl (by decide) (by decide) (by decide) 0 rfl rfl rfl rfl hl.1 rfl (Nat.le_of_ble_eq_true rfl) dX3_put_67 ⟨Nat.zero_le _, Nat.zero_le _⟩ (fun v1 w1 H locs hq hP hD hS => ?_)
      rcases hq with ⟨rfl, rfl⟩
      have hP : va_P D vwCl ([(rf, .inl (cI, 4, .inl (RF))), (pl, .inl (cI, 4, .inl (P))), (hd, .inl (cI, 4, .inl (Hd))), (ha, .inl (cI, 4, .inl (HA))), (lo, .inl (cI, 4, .inl (Lo))), (as_, .inl (cI, 64, .inl (AS))), (t, .inl (cI, 192, .inl (flT (upR T i (upd (opn (T i) 0 1 (Z i)) 0 (nI ((md * 10) + nm))))))), (z, .inl (cI, 3, .inl (zI (updN Z i (Z i + 1))))), (x, .inr (3, [.ref t, .ref z, .int (nI (md + 1)), .ref rf, .ref rw, .ref pl, .ref hd, .ref ha, .ref lo, .ref ol, .ref as_])), (rw, .inl (cI, 4, .inl (R))), (ol, .inl (cI, 4, .inl (agF R Ol (nI i) (-1))))]) H := hP
      have hD : va_D A ([(rf, .inl (cI, 4, .inl (RF))), (pl, .inl (cI, 4, .inl (P))), (hd, .inl (cI, 4, .inl (Hd))), (ha, .inl (cI, 4, .inl (HA))), (lo, .inl (cI, 4, .inl (Lo))), (as_, .inl (cI, 64, .inl (AS))), (t, .inl (cI, 192, .inl (flT (upR T i (upd (opn (T i) 0 1 (Z i)) 0 (nI ((md * 10) + nm))))))), (z, .inl (cI, 3, .inl (zI (updN Z i (Z i + 1))))), (x, .inr (3, [.ref t, .ref z, .int (nI (md + 1)), .ref rf, .ref rw, .ref pl, .ref hd, .ref ha, .ref lo, .ref ol, .ref as_])), (rw, .inl (cI, 4, .inl (R))), (ol, .inl (cI, 4, .inl (agF R Ol (nI i) (-1))))]) := hD
      refine W.eq (g2 := F0 m 70 ls []) rfl ?_
      refine lv_aload_n hx hb dX3_put_70 rfl (lv_at hl 0 rfl) ?_
      refine va_get (D := D) (ci := 3) (v := .ref z) (C := RX3) (T := TX3) (N := 11) hx hb hts hi_X3_put_3 hown hK.1 hP 8 rfl rfl 1 (by decide) (hts _ hf_X3_put_13) (fun _ h9 => h9) rfl dX3_put_71 ?_
      refine lv_iload_n hx hb dX3_put_74 rfl (lv_at hl 1 rfl) ?_
      refine pw_iald hx hb hK.1 hP 7 0 rfl rfl (by decide) (by omega) dX3_put_75 ?_
      refine pw_top (y := nI (Z i + 1)) (congrArg nI (updN_s _ _ _)) ?_
      have hP := hP.sub (ws' := [(x, .inr (3, [.ref t, .ref z, .int (nI (md + 1)), .ref rf, .ref rw, .ref pl, .ref hd, .ref ha, .ref lo, .ref ol, .ref as_])), (t, .inl (cI, 192, .inl (flT (upR T i (upd (opn (T i) 0 1 (Z i)) 0 (nI ((md * 10) + nm))))))), (z, .inl (cI, 3, .inl (zI (updN Z i (Z i + 1))))), (rf, .inl (cI, 4, .inl (RF))), (rw, .inl (cI, 4, .inl (R))), (pl, .inl (cI, 4, .inl (P))), (hd, .inl (cI, 4, .inl (Hd))), (ha, .inl (cI, 4, .inl (HA))), (lo, .inl (cI, 4, .inl (Lo))), (ol, .inl (cI, 4, .inl (agF R Ol (nI i) (-1)))), (as_, .inl (cI, 64, .inl (AS)))]) [8, 6, 7, 0, 9, 1, 2, 3, 4, 10, 5] rfl
      have hD := hD.sub (ws' := [(x, .inr (3, [.ref t, .ref z, .int (nI (md + 1)), .ref rf, .ref rw, .ref pl, .ref hd, .ref ha, .ref lo, .ref ol, .ref as_])), (t, .inl (cI, 192, .inl (flT (upR T i (upd (opn (T i) 0 1 (Z i)) 0 (nI ((md * 10) + nm))))))), (z, .inl (cI, 3, .inl (zI (updN Z i (Z i + 1))))), (rf, .inl (cI, 4, .inl (RF))), (rw, .inl (cI, 4, .inl (R))), (pl, .inl (cI, 4, .inl (P))), (hd, .inl (cI, 4, .inl (Hd))), (ha, .inl (cI, 4, .inl (HA))), (lo, .inl (cI, 4, .inl (Lo))), (ol, .inl (cI, 4, .inl (agF R Ol (nI i) (-1)))), (as_, .inl (cI, 64, .inl (AS)))]) [8, 6, 7, 0, 9, 1, 2, 3, 4, 10, 5] (by decide) rfl
      exact pw_iret hx hb hr (rfl) hlocks dX3_put_76 hS hP hD (⟨rfl, by unfold plF; rw [if_pos c_2]⟩)
    · have _h := c_2
      refine lv_aload_n hx hb dX3_put_46 rfl (lv_at hl 0 rfl) ?_
      refine va_get (D := D) (ci := 3) (v := .ref z) (C := RX3) (T := TX3) (N := 11) hx hb hts hi_X3_put_3 hown hK.1 hP 0 rfl rfl 1 (by decide) (hts _ hf_X3_put_13) (fun _ h9 => h9) rfl dX3_put_47 ?_
      refine lv_iload_n hx hb dX3_put_50 rfl (lv_at hl 1 rfl) ?_
      refine pw_iald hx hb hK.1 hP 2 0 rfl rfl (by decide) (by omega) dX3_put_51 ?_
      refine pw_top (y := nI (Z i)) rfl ?_
      refine lv_goto (tgt := 56) hx hb dX3_put_52 (by decide) ?_
      refine lv_aload_n hx hb dX3_put_56 rfl (lv_at hl 0 rfl) ?_
      refine lv_iload_n hx hb dX3_put_57 rfl (lv_at hl 2 rfl) ?_
      -- m_make
      refine pw_cVm (As := [.int (nI nm)]) (rest := [.int (nI (Z i)), .int (nI i), .ref x]) (wc := [(x, .inr (3, [.ref t, .ref z, .int (nI md), .ref rf, .ref rw, .ref pl, .ref hd, .ref ha, .ref lo, .ref ol, .ref as_]))]) (wr := [(t, .inl (cI, 192, .inl (flT T))), (z, .inl (cI, 3, .inl (zI Z))), (rf, .inl (cI, 4, .inl (RF))), (rw, .inl (cI, 4, .inl (R))), (pl, .inl (cI, 4, .inl (P))), (hd, .inl (cI, 4, .inl (Hd))), (ha, .inl (cI, 4, .inl (HA))), (lo, .inl (cI, 4, .inl (Lo))), (ol, .inl (cI, 4, .inl (Ol))), (as_, .inl (cI, 64, .inl (AS)))]) ⟨hx, hb, hml, hown, hts⟩ (m_make l D cI cP cR x t z rf rw pl hd ha lo ol as_ md nm) (cwV 1 hts gX3_put_X3_make rfl rfl rfl (by decide +kernel) ⟨Nat.le_of_ble_eq_true rfl, Nat.le_of_ble_eq_true rfl⟩) hK hP hD hS hA [0] [1, 2, 3, 4, 5, 6, 7, 8, 9, 10] rfl rfl (by decide) (by decide) (by decide) 0 rfl rfl rfl rfl hl.1 rfl (Nat.le_of_ble_eq_true rfl) dX3_put_58 ⟨Nat.zero_le _, Nat.zero_le _⟩ (fun v1 w1 H locs hq hP hD hS => ?_)
      rcases hq with ⟨rfl, rfl⟩
      have hP : va_P D vwCl ([(t, .inl (cI, 192, .inl (flT T))), (z, .inl (cI, 3, .inl (zI Z))), (rf, .inl (cI, 4, .inl (RF))), (rw, .inl (cI, 4, .inl (R))), (pl, .inl (cI, 4, .inl (P))), (hd, .inl (cI, 4, .inl (Hd))), (ha, .inl (cI, 4, .inl (HA))), (lo, .inl (cI, 4, .inl (Lo))), (ol, .inl (cI, 4, .inl (Ol))), (as_, .inl (cI, 64, .inl (AS))), (x, .inr (3, [.ref t, .ref z, .int (nI (md + 1)), .ref rf, .ref rw, .ref pl, .ref hd, .ref ha, .ref lo, .ref ol, .ref as_]))]) H := hP
      have hD : va_D A ([(t, .inl (cI, 192, .inl (flT T))), (z, .inl (cI, 3, .inl (zI Z))), (rf, .inl (cI, 4, .inl (RF))), (rw, .inl (cI, 4, .inl (R))), (pl, .inl (cI, 4, .inl (P))), (hd, .inl (cI, 4, .inl (Hd))), (ha, .inl (cI, 4, .inl (HA))), (lo, .inl (cI, 4, .inl (Lo))), (ol, .inl (cI, 4, .inl (Ol))), (as_, .inl (cI, 64, .inl (AS))), (x, .inr (3, [.ref t, .ref z, .int (nI (md + 1)), .ref rf, .ref rw, .ref pl, .ref hd, .ref ha, .ref lo, .ref ol, .ref as_]))]) := hD
      refine W.eq (g2 := F0 m 61 ls [.int (nI ((md * 10) + nm)), .int (nI (Z i)), .int (nI i), .ref x]) rfl ?_
      -- m_open
      refine pw_cVm (As := [.int (nI i), .int (nI (Z i)), .int (nI ((md * 10) + nm))]) (rest := []) (wc := [(x, .inr (3, [.ref t, .ref z, .int (nI (md + 1)), .ref rf, .ref rw, .ref pl, .ref hd, .ref ha, .ref lo, .ref ol, .ref as_])), (t, .inl (cI, 192, .inl (flT T))), (z, .inl (cI, 3, .inl (zI Z)))]) (wr := [(rf, .inl (cI, 4, .inl (RF))), (rw, .inl (cI, 4, .inl (R))), (pl, .inl (cI, 4, .inl (P))), (hd, .inl (cI, 4, .inl (Hd))), (ha, .inl (cI, 4, .inl (HA))), (lo, .inl (cI, 4, .inl (Lo))), (ol, .inl (cI, 4, .inl (Ol))), (as_, .inl (cI, 64, .inl (AS)))]) ⟨hx, hb, hml, hown, hts⟩ (m_open l D cI cP cR x t z rf rw pl hd ha lo ol as_ (md + 1) T Z i (Z i) (nI ((md * 10) + nm)) (by omega) (by omega) (by omega)) (cwV 3 hts gX3_put_X3_open rfl rfl rfl (by decide +kernel) ⟨Nat.le_of_ble_eq_true rfl, Nat.le_of_ble_eq_true rfl⟩) hK hP hD hS hA [10, 0, 1] [2, 3, 4, 5, 6, 7, 8, 9] rfl rfl (by decide) (by decide) (by decide) 0 rfl rfl rfl rfl hl.1 rfl (Nat.le_of_ble_eq_true rfl) dX3_put_61 ⟨Nat.zero_le _, Nat.zero_le _⟩ (fun v1 w1 H locs hq hP hD hS => ?_)
      rcases hq with ⟨rfl, rfl⟩
      have hP : va_P D vwCl ([(rf, .inl (cI, 4, .inl (RF))), (rw, .inl (cI, 4, .inl (R))), (pl, .inl (cI, 4, .inl (P))), (hd, .inl (cI, 4, .inl (Hd))), (ha, .inl (cI, 4, .inl (HA))), (lo, .inl (cI, 4, .inl (Lo))), (ol, .inl (cI, 4, .inl (Ol))), (as_, .inl (cI, 64, .inl (AS))), (x, .inr (3, [.ref t, .ref z, .int (nI (md + 1)), .ref rf, .ref rw, .ref pl, .ref hd, .ref ha, .ref lo, .ref ol, .ref as_])), (t, .inl (cI, 192, .inl (flT (upR T i (upd (opn (T i) (Z i) 1 (Z i)) (Z i) (nI ((md * 10) + nm))))))), (z, .inl (cI, 3, .inl (zI (updN Z i (Z i + 1)))))]) H := hP
      have hD : va_D A ([(rf, .inl (cI, 4, .inl (RF))), (rw, .inl (cI, 4, .inl (R))), (pl, .inl (cI, 4, .inl (P))), (hd, .inl (cI, 4, .inl (Hd))), (ha, .inl (cI, 4, .inl (HA))), (lo, .inl (cI, 4, .inl (Lo))), (ol, .inl (cI, 4, .inl (Ol))), (as_, .inl (cI, 64, .inl (AS))), (x, .inr (3, [.ref t, .ref z, .int (nI (md + 1)), .ref rf, .ref rw, .ref pl, .ref hd, .ref ha, .ref lo, .ref ol, .ref as_])), (t, .inl (cI, 192, .inl (flT (upR T i (upd (opn (T i) (Z i) 1 (Z i)) (Z i) (nI ((md * 10) + nm))))))), (z, .inl (cI, 3, .inl (zI (updN Z i (Z i + 1)))))]) := hD
      refine W.eq (g2 := F0 m 64 ls []) rfl ?_
      refine lv_aload_n hx hb dX3_put_64 rfl (lv_at hl 0 rfl) ?_
      refine lv_iload_n hx hb dX3_put_65 rfl (lv_at hl 1 rfl) ?_
      refine lv_iconst (v := -1) hx hb dX3_put_66 (by decide) ?_
      -- m_age
      refine pw_cVm (As := [.int (nI i), .int (-1)]) (rest := []) (wc := [(x, .inr (3, [.ref t, .ref z, .int (nI (md + 1)), .ref rf, .ref rw, .ref pl, .ref hd, .ref ha, .ref lo, .ref ol, .ref as_])), (rw, .inl (cI, 4, .inl (R))), (ol, .inl (cI, 4, .inl (Ol)))]) (wr := [(rf, .inl (cI, 4, .inl (RF))), (pl, .inl (cI, 4, .inl (P))), (hd, .inl (cI, 4, .inl (Hd))), (ha, .inl (cI, 4, .inl (HA))), (lo, .inl (cI, 4, .inl (Lo))), (as_, .inl (cI, 64, .inl (AS))), (t, .inl (cI, 192, .inl (flT (upR T i (upd (opn (T i) (Z i) 1 (Z i)) (Z i) (nI ((md * 10) + nm))))))), (z, .inl (cI, 3, .inl (zI (updN Z i (Z i + 1)))))]) ⟨hx, hb, hml, hown, hts⟩ (m_age l D cI cP cR x t z rf rw pl hd ha lo ol as_ (md + 1) R Ol i (-1)) (cwV 2 hts gX3_put_X3_age rfl rfl rfl (by decide +kernel) ⟨Nat.le_of_ble_eq_true rfl, Nat.le_of_ble_eq_true rfl⟩) hK hP hD hS hA [8, 1, 6] [0, 2, 3, 4, 5, 7, 9, 10] rfl rfl (by decide) (by decide) (by decide) 0 rfl rfl rfl rfl hl.1 rfl (Nat.le_of_ble_eq_true rfl) dX3_put_67 ⟨Nat.zero_le _, Nat.zero_le _⟩ (fun v1 w1 H locs hq hP hD hS => ?_)
      rcases hq with ⟨rfl, rfl⟩
      have hP : va_P D vwCl ([(rf, .inl (cI, 4, .inl (RF))), (pl, .inl (cI, 4, .inl (P))), (hd, .inl (cI, 4, .inl (Hd))), (ha, .inl (cI, 4, .inl (HA))), (lo, .inl (cI, 4, .inl (Lo))), (as_, .inl (cI, 64, .inl (AS))), (t, .inl (cI, 192, .inl (flT (upR T i (upd (opn (T i) (Z i) 1 (Z i)) (Z i) (nI ((md * 10) + nm))))))), (z, .inl (cI, 3, .inl (zI (updN Z i (Z i + 1))))), (x, .inr (3, [.ref t, .ref z, .int (nI (md + 1)), .ref rf, .ref rw, .ref pl, .ref hd, .ref ha, .ref lo, .ref ol, .ref as_])), (rw, .inl (cI, 4, .inl (R))), (ol, .inl (cI, 4, .inl (agF R Ol (nI i) (-1))))]) H := hP
      have hD : va_D A ([(rf, .inl (cI, 4, .inl (RF))), (pl, .inl (cI, 4, .inl (P))), (hd, .inl (cI, 4, .inl (Hd))), (ha, .inl (cI, 4, .inl (HA))), (lo, .inl (cI, 4, .inl (Lo))), (as_, .inl (cI, 64, .inl (AS))), (t, .inl (cI, 192, .inl (flT (upR T i (upd (opn (T i) (Z i) 1 (Z i)) (Z i) (nI ((md * 10) + nm))))))), (z, .inl (cI, 3, .inl (zI (updN Z i (Z i + 1))))), (x, .inr (3, [.ref t, .ref z, .int (nI (md + 1)), .ref rf, .ref rw, .ref pl, .ref hd, .ref ha, .ref lo, .ref ol, .ref as_])), (rw, .inl (cI, 4, .inl (R))), (ol, .inl (cI, 4, .inl (agF R Ol (nI i) (-1))))]) := hD
      refine W.eq (g2 := F0 m 70 ls []) rfl ?_
      refine lv_aload_n hx hb dX3_put_70 rfl (lv_at hl 0 rfl) ?_
      refine va_get (D := D) (ci := 3) (v := .ref z) (C := RX3) (T := TX3) (N := 11) hx hb hts hi_X3_put_3 hown hK.1 hP 8 rfl rfl 1 (by decide) (hts _ hf_X3_put_13) (fun _ h9 => h9) rfl dX3_put_71 ?_
      refine lv_iload_n hx hb dX3_put_74 rfl (lv_at hl 1 rfl) ?_
      refine pw_iald hx hb hK.1 hP 7 0 rfl rfl (by decide) (by omega) dX3_put_75 ?_
      refine pw_top (y := nI (Z i + 1)) (congrArg nI (updN_s _ _ _)) ?_
      have hP := hP.sub (ws' := [(x, .inr (3, [.ref t, .ref z, .int (nI (md + 1)), .ref rf, .ref rw, .ref pl, .ref hd, .ref ha, .ref lo, .ref ol, .ref as_])), (t, .inl (cI, 192, .inl (flT (upR T i (upd (opn (T i) (Z i) 1 (Z i)) (Z i) (nI ((md * 10) + nm))))))), (z, .inl (cI, 3, .inl (zI (updN Z i (Z i + 1))))), (rf, .inl (cI, 4, .inl (RF))), (rw, .inl (cI, 4, .inl (R))), (pl, .inl (cI, 4, .inl (P))), (hd, .inl (cI, 4, .inl (Hd))), (ha, .inl (cI, 4, .inl (HA))), (lo, .inl (cI, 4, .inl (Lo))), (ol, .inl (cI, 4, .inl (agF R Ol (nI i) (-1)))), (as_, .inl (cI, 64, .inl (AS)))]) [8, 6, 7, 0, 9, 1, 2, 3, 4, 10, 5] rfl
      have hD := hD.sub (ws' := [(x, .inr (3, [.ref t, .ref z, .int (nI (md + 1)), .ref rf, .ref rw, .ref pl, .ref hd, .ref ha, .ref lo, .ref ol, .ref as_])), (t, .inl (cI, 192, .inl (flT (upR T i (upd (opn (T i) (Z i) 1 (Z i)) (Z i) (nI ((md * 10) + nm))))))), (z, .inl (cI, 3, .inl (zI (updN Z i (Z i + 1))))), (rf, .inl (cI, 4, .inl (RF))), (rw, .inl (cI, 4, .inl (R))), (pl, .inl (cI, 4, .inl (P))), (hd, .inl (cI, 4, .inl (Hd))), (ha, .inl (cI, 4, .inl (HA))), (lo, .inl (cI, 4, .inl (Lo))), (ol, .inl (cI, 4, .inl (agF R Ol (nI i) (-1)))), (as_, .inl (cI, 64, .inl (AS)))]) [8, 6, 7, 0, 9, 1, 2, 3, 4, 10, 5] (by decide) rfl
      exact pw_iret hx hb hr (rfl) hlocks dX3_put_76 hS hP hD (⟨rfl, by unfold plF; rw [if_neg c_2]⟩)
  · exact absurd c_1 (by omega)
set_option maxHeartbeats 4000000 in
set_option maxRecDepth 100000 in
theorem n_end_x (l : Launch) (D : va_G) (cI cP cR : ClassId) (x t z rf rw pl hd ha lo ol as_ md : Nat) (T : Nat → Nat → Int32) (Z : Nat → Nat) (RF R P Hd HA Lo Ol AS : Nat → Int32) (row la way : Int32) (hbad : ¬ ((0 ≤ row ∧ row < nI 3) ∧ (0 ≤ way ∧ way ≤ (if la = 0 then nI 3 else nI 1)))) : pw_Mp l yX3_end wsX3_end ({ frames := 2, cells := 0, slots := 0, locals := 47 } : Room) D cI cP cR [.ref x, .int (row), .int (la), .int (way)] ([(x, .inr (3, [.ref t, .ref z, .int (nI md), .ref rf, .ref rw, .ref pl, .ref hd, .ref ha, .ref lo, .ref ol, .ref as_])), (t, .inl (cI, 192, .inl (flT T))), (z, .inl (cI, 3, .inl (zI Z))), (rf, .inl (cI, 4, .inl (RF))), (rw, .inl (cI, 4, .inl (R))), (pl, .inl (cI, 4, .inl (P))), (hd, .inl (cI, 4, .inl (Hd))), (ha, .inl (cI, 4, .inl (HA))), (lo, .inl (cI, 4, .inl (Lo))), (ol, .inl (cI, 4, .inl (Ol))), (as_, .inl (cI, 64, .inl (AS)))]) (.int (-1)) := by
  refine pw_ofp (cc := cX3_end) (maxL := 4) (ret := (some .int)) (own := RX3) (by decide +kernel) rfl rfl (Nat.le_of_ble_eq_true rfl) ?_
  intro p_ e_ s m bel meth cd hE hK hP hD ls hl
  obtain ⟨hx, hb, hr, hml, hown, hts, hlocks⟩ := hE
  have hNW := hK.2
  have hl : lv_has ls 4 [(0, .ref x), (1, .int (row)), (2, .int (la)), (3, .int (way))] := hl
  by_cases hx_row : 0 ≤ row ∧ row < nI 3
  · obtain ⟨rj_1, hrj_1, rfl⟩ := pw_inP (by decide) hx_row
    refine lv_iload_n hx hb dX3_end_0 rfl (lv_at hl 1 rfl) ?_
    -- m_isRow_t
    refine pw_cSp (As := [.int (nI rj_1)]) (rest := []) ⟨hx, hb, hml, hown, hts⟩ (m_isRow_t l D cI cP cR rj_1 (by omega)) (va_cwS 1 hts gX3_end_X3_isRow rfl rfl rfl (by decide +kernel) ⟨Nat.le_of_ble_eq_true rfl, Nat.le_of_ble_eq_true rfl⟩) hK rfl hl.1 rfl (Nat.le_of_ble_eq_true rfl) dX3_end_1 ⟨Nat.zero_le _, Nat.zero_le _⟩ ?_
    refine lv_if_eq (tgt := 24) hx hb dX3_end_4 (by decide) (fun c => absurd c (by decide)) (fun c => ?_)
    refine lv_iload_n hx hb dX3_end_7 rfl (lv_at hl 3 rfl) ?_
    refine lv_iconst (v := nI 0) hx hb dX3_end_8 (by decide) ?_
    refine lv_iload_n hx hb dX3_end_9 rfl (lv_at hl 2 rfl) ?_
    refine lv_if_eq (tgt := 17) hx hb dX3_end_10 (by decide) (fun c_2 => ?_) (fun c_2 => ?_)
    · have _h := c_2
      refine lv_iconst (v := nI 3) hx hb dX3_end_17 (by decide) ?_
      -- m_in_f
      refine pw_cSp (As := [.int (way), .int (nI 0), .int (nI 3)]) (rest := []) ⟨hx, hb, hml, hown, hts⟩ (m_in_f l D cI cP cR way (nI 0) (nI 3) (fun h => hbad ⟨hx_row, h.1, by rw [if_pos c_2]; exact h.2⟩)) (va_cwS 3 hts gX3_end_X3_in rfl rfl rfl (by decide +kernel) ⟨Nat.le_of_ble_eq_true rfl, Nat.le_of_ble_eq_true rfl⟩) hK rfl hl.1 rfl (Nat.le_of_ble_eq_true rfl) dX3_end_18 ⟨Nat.zero_le _, Nat.zero_le _⟩ ?_
      refine lv_if_ne (tgt := 26) hx hb dX3_end_21 (by decide) (fun c => absurd c (by decide)) (fun c => ?_)
      refine lv_iconst (v := -1) hx hb dX3_end_24 (by decide) ?_
      exact pw_piret hx hb hr (rfl) hlocks dX3_end_25 (rfl)
    · have _h := c_2
      refine lv_iconst (v := nI 1) hx hb dX3_end_13 (by decide) ?_
      refine lv_goto (tgt := 18) hx hb dX3_end_14 (by decide) ?_
      -- m_in_f
      refine pw_cSp (As := [.int (way), .int (nI 0), .int (nI 1)]) (rest := []) ⟨hx, hb, hml, hown, hts⟩ (m_in_f l D cI cP cR way (nI 0) (nI 1) (fun h => hbad ⟨hx_row, h.1, by rw [if_neg c_2]; exact h.2⟩)) (va_cwS 3 hts gX3_end_X3_in rfl rfl rfl (by decide +kernel) ⟨Nat.le_of_ble_eq_true rfl, Nat.le_of_ble_eq_true rfl⟩) hK rfl hl.1 rfl (Nat.le_of_ble_eq_true rfl) dX3_end_18 ⟨Nat.zero_le _, Nat.zero_le _⟩ ?_
      refine lv_if_ne (tgt := 26) hx hb dX3_end_21 (by decide) (fun c => absurd c (by decide)) (fun c => ?_)
      refine lv_iconst (v := -1) hx hb dX3_end_24 (by decide) ?_
      exact pw_piret hx hb hr (rfl) hlocks dX3_end_25 (rfl)
  · have _h := hx_row
    refine lv_iload_n hx hb dX3_end_0 rfl (lv_at hl 1 rfl) ?_
    -- m_isRow_f
    refine pw_cSp (As := [.int (row)]) (rest := []) ⟨hx, hb, hml, hown, hts⟩ (m_isRow_f l D cI cP cR row hx_row) (va_cwS 1 hts gX3_end_X3_isRow rfl rfl rfl (by decide +kernel) ⟨Nat.le_of_ble_eq_true rfl, Nat.le_of_ble_eq_true rfl⟩) hK rfl hl.1 rfl (Nat.le_of_ble_eq_true rfl) dX3_end_1 ⟨Nat.zero_le _, Nat.zero_le _⟩ ?_
    refine lv_if_eq (tgt := 24) hx hb dX3_end_4 (by decide) (fun c => ?_) (fun c => absurd c (by decide))
    refine lv_iconst (v := -1) hx hb dX3_end_24 (by decide) ?_
    exact pw_piret hx hb hr (rfl) hlocks dX3_end_25 (rfl)
theorem hi_X3_end_3 : ∀ w ∈ u_ws RX3 TX3 11, w ∈ wsX3_end := by decide +kernel
theorem hf_X3_end_13 : Cond.fieldLink RX3 13 "PegrowModel" "sizes" "[I" ∈ wsX3_end := by decide +kernel
set_option maxHeartbeats 4000000 in
set_option maxRecDepth 100000 in
theorem n_end_e (l : Launch) (D : va_G) (cI cP cR : ClassId) (x t z rf rw pl hd ha lo ol as_ md : Nat) (T : Nat → Nat → Int32) (Z : Nat → Nat) (RF R P Hd HA Lo Ol AS : Nat → Int32) (i : Nat) (hi : i < 3) (hz : Z i ≤ 60) (la way : Int32) (hw : (0 ≤ way ∧ way ≤ (if la = 0 then nI 3 else nI 1))) (hzz : Z i = 0) (he : way - way / nI 2 * nI 2 = 0) : pw_Mm l yX3_end wsX3_end ({ frames := 2, cells := 0, slots := 0, locals := 47 } : Room) D cI cP cR [.ref x, .int (nI i), .int (la), .int (way)] ([(x, .inr (3, [.ref t, .ref z, .int (nI md), .ref rf, .ref rw, .ref pl, .ref hd, .ref ha, .ref lo, .ref ol, .ref as_])), (t, .inl (cI, 192, .inl (flT T))), (z, .inl (cI, 3, .inl (zI Z))), (rf, .inl (cI, 4, .inl (RF))), (rw, .inl (cI, 4, .inl (R))), (pl, .inl (cI, 4, .inl (P))), (hd, .inl (cI, 4, .inl (Hd))), (ha, .inl (cI, 4, .inl (HA))), (lo, .inl (cI, 4, .inl (Lo))), (ol, .inl (cI, 4, .inl (Ol))), (as_, .inl (cI, 64, .inl (AS)))]) (fun v w => v = some (.int (-6)) ∧ w = [(x, .inr (3, [.ref t, .ref z, .int (nI md), .ref rf, .ref rw, .ref pl, .ref hd, .ref ha, .ref lo, .ref ol, .ref as_])), (t, .inl (cI, 192, .inl (flT T))), (z, .inl (cI, 3, .inl (zI Z))), (rf, .inl (cI, 4, .inl (upd RF 0 (RF 0 + nI 1)))), (rw, .inl (cI, 4, .inl (R))), (pl, .inl (cI, 4, .inl (P))), (hd, .inl (cI, 4, .inl (Hd))), (ha, .inl (cI, 4, .inl (HA))), (lo, .inl (cI, 4, .inl (Lo))), (ol, .inl (cI, 4, .inl (Ol))), (as_, .inl (cI, 64, .inl (AS)))]) := by
  refine pw_ofm (cc := cX3_end) (maxL := 4) (ret := (some .int)) (own := RX3) (by decide +kernel) rfl rfl (Nat.le_of_ble_eq_true rfl) ?_
  intro p_ e_ s m bel meth cd A hE hK hP hD hA hS ls hl
  obtain ⟨hx, hb, hr, hml, hown, hts, hlocks⟩ := hE
  have hNW := hK.2
  have hl : lv_has ls 4 [(0, .ref x), (1, .int (nI i)), (2, .int (la)), (3, .int (way))] := hl
  refine lv_iload_n hx hb dX3_end_0 rfl (lv_at hl 1 rfl) ?_
  -- m_isRow_t
  refine pw_cSp (As := [.int (nI i)]) (rest := []) ⟨hx, hb, hml, hown, hts⟩ (m_isRow_t l D cI cP cR i (by omega)) (va_cwS 1 hts gX3_end_X3_isRow rfl rfl rfl (by decide +kernel) ⟨Nat.le_of_ble_eq_true rfl, Nat.le_of_ble_eq_true rfl⟩) hK rfl hl.1 rfl (Nat.le_of_ble_eq_true rfl) dX3_end_1 ⟨Nat.zero_le _, Nat.zero_le _⟩ ?_
  refine lv_if_eq (tgt := 24) hx hb dX3_end_4 (by decide) (fun c => absurd c (by decide)) (fun c => ?_)
  refine lv_iload_n hx hb dX3_end_7 rfl (lv_at hl 3 rfl) ?_
  refine lv_iconst (v := nI 0) hx hb dX3_end_8 (by decide) ?_
  refine lv_iload_n hx hb dX3_end_9 rfl (lv_at hl 2 rfl) ?_
  refine lv_if_eq (tgt := 17) hx hb dX3_end_10 (by decide) (fun c_1 => ?_) (fun c_1 => ?_)
  · have _h := c_1
    refine lv_iconst (v := nI 3) hx hb dX3_end_17 (by decide) ?_
    -- m_in_t
    refine pw_cSp (As := [.int (way), .int (nI 0), .int (nI 3)]) (rest := []) ⟨hx, hb, hml, hown, hts⟩ (m_in_t l D cI cP cR way (nI 0) (nI 3) (⟨hw.1, by have h2 := hw.2; rw [if_pos c_1] at h2; exact h2⟩)) (va_cwS 3 hts gX3_end_X3_in rfl rfl rfl (by decide +kernel) ⟨Nat.le_of_ble_eq_true rfl, Nat.le_of_ble_eq_true rfl⟩) hK rfl hl.1 rfl (Nat.le_of_ble_eq_true rfl) dX3_end_18 ⟨Nat.zero_le _, Nat.zero_le _⟩ ?_
    refine lv_if_ne (tgt := 26) hx hb dX3_end_21 (by decide) (fun c => ?_) (fun c => absurd c (by decide))
    refine lv_aload_n hx hb dX3_end_26 rfl (lv_at hl 0 rfl) ?_
    refine va_get (D := D) (ci := 3) (v := .ref z) (C := RX3) (T := TX3) (N := 11) hx hb hts hi_X3_end_3 hown hK.1 hP 0 rfl rfl 1 (by decide) (hts _ hf_X3_end_13) (fun _ h9 => h9) rfl dX3_end_27 ?_
    refine lv_iload_n hx hb dX3_end_30 rfl (lv_at hl 1 rfl) ?_
    refine pw_iald hx hb hK.1 hP 2 0 rfl rfl (by decide) (by omega) dX3_end_31 ?_
    refine pw_top (y := nI (Z i)) rfl ?_
    refine pw_if_ne (tgt := 54) hx hb (by omega) dX3_end_32 (by decide) (fun c_2 => ?_) (fun c_2 => ?_)
    · exact absurd hzz c_2
    · have _h := c_2
      refine lv_iload_n hx hb dX3_end_35 rfl (lv_at hl 3 rfl) ?_
      refine lv_iconst (v := nI 2) hx hb dX3_end_36 (by decide) ?_
      refine lv_irem hx hb dX3_end_37 (by decide) ?_
      refine lv_if_ne (tgt := 51) hx hb dX3_end_38 (by decide) (fun c_3 => ?_) (fun c_3 => ?_)
      · exact absurd he c_3
      · have _h := c_3
        refine lv_aload_n hx hb dX3_end_41 rfl (lv_at hl 0 rfl) ?_
        refine lv_iconst (v := nI 0) hx hb dX3_end_42 (by decide) ?_
        refine lv_bipush (v := -6) hx hb dX3_end_43 (by decide) ?_
        -- m_refuse
        refine pw_cVm (As := [.int (nI 0), .int (-6)]) (rest := []) (wc := [(x, .inr (3, [.ref t, .ref z, .int (nI md), .ref rf, .ref rw, .ref pl, .ref hd, .ref ha, .ref lo, .ref ol, .ref as_])), (rf, .inl (cI, 4, .inl (RF)))]) (wr := [(t, .inl (cI, 192, .inl (flT T))), (z, .inl (cI, 3, .inl (zI Z))), (rw, .inl (cI, 4, .inl (R))), (pl, .inl (cI, 4, .inl (P))), (hd, .inl (cI, 4, .inl (Hd))), (ha, .inl (cI, 4, .inl (HA))), (lo, .inl (cI, 4, .inl (Lo))), (ol, .inl (cI, 4, .inl (Ol))), (as_, .inl (cI, 64, .inl (AS)))]) ⟨hx, hb, hml, hown, hts⟩ (m_refuse l D cI cP cR x t z rf rw pl hd ha lo ol as_ md RF 0 (-6) (by decide)) (cwV 2 hts gX3_end_X3_refuse rfl rfl rfl (by decide +kernel) ⟨Nat.le_of_ble_eq_true rfl, Nat.le_of_ble_eq_true rfl⟩) hK hP hD hS hA [0, 3] [1, 2, 4, 5, 6, 7, 8, 9, 10] rfl rfl (by decide) (by decide) (by decide) 0 rfl rfl rfl rfl hl.1 rfl (Nat.le_of_ble_eq_true rfl) dX3_end_45 ⟨Nat.zero_le _, Nat.zero_le _⟩ (fun v1 w1 H locs hq hP hD hS => ?_)
        rcases hq with ⟨rfl, rfl⟩
        have hP : va_P D vwCl ([(t, .inl (cI, 192, .inl (flT T))), (z, .inl (cI, 3, .inl (zI Z))), (rw, .inl (cI, 4, .inl (R))), (pl, .inl (cI, 4, .inl (P))), (hd, .inl (cI, 4, .inl (Hd))), (ha, .inl (cI, 4, .inl (HA))), (lo, .inl (cI, 4, .inl (Lo))), (ol, .inl (cI, 4, .inl (Ol))), (as_, .inl (cI, 64, .inl (AS))), (x, .inr (3, [.ref t, .ref z, .int (nI md), .ref rf, .ref rw, .ref pl, .ref hd, .ref ha, .ref lo, .ref ol, .ref as_])), (rf, .inl (cI, 4, .inl (upd RF 0 (RF 0 + nI 1))))]) H := hP
        have hD : va_D A ([(t, .inl (cI, 192, .inl (flT T))), (z, .inl (cI, 3, .inl (zI Z))), (rw, .inl (cI, 4, .inl (R))), (pl, .inl (cI, 4, .inl (P))), (hd, .inl (cI, 4, .inl (Hd))), (ha, .inl (cI, 4, .inl (HA))), (lo, .inl (cI, 4, .inl (Lo))), (ol, .inl (cI, 4, .inl (Ol))), (as_, .inl (cI, 64, .inl (AS))), (x, .inr (3, [.ref t, .ref z, .int (nI md), .ref rf, .ref rw, .ref pl, .ref hd, .ref ha, .ref lo, .ref ol, .ref as_])), (rf, .inl (cI, 4, .inl (upd RF 0 (RF 0 + nI 1))))]) := hD
        refine W.eq (g2 := F0 m 48 ls [.int (-6)]) rfl ?_
        refine lv_goto (tgt := 53) hx hb dX3_end_48 (by decide) ?_
        have hP := hP.sub (ws' := [(x, .inr (3, [.ref t, .ref z, .int (nI md), .ref rf, .ref rw, .ref pl, .ref hd, .ref ha, .ref lo, .ref ol, .ref as_])), (t, .inl (cI, 192, .inl (flT T))), (z, .inl (cI, 3, .inl (zI Z))), (rf, .inl (cI, 4, .inl (upd RF 0 (RF 0 + nI 1)))), (rw, .inl (cI, 4, .inl (R))), (pl, .inl (cI, 4, .inl (P))), (hd, .inl (cI, 4, .inl (Hd))), (ha, .inl (cI, 4, .inl (HA))), (lo, .inl (cI, 4, .inl (Lo))), (ol, .inl (cI, 4, .inl (Ol))), (as_, .inl (cI, 64, .inl (AS)))]) [9, 0, 1, 10, 2, 3, 4, 5, 6, 7, 8] rfl
        have hD := hD.sub (ws' := [(x, .inr (3, [.ref t, .ref z, .int (nI md), .ref rf, .ref rw, .ref pl, .ref hd, .ref ha, .ref lo, .ref ol, .ref as_])), (t, .inl (cI, 192, .inl (flT T))), (z, .inl (cI, 3, .inl (zI Z))), (rf, .inl (cI, 4, .inl (upd RF 0 (RF 0 + nI 1)))), (rw, .inl (cI, 4, .inl (R))), (pl, .inl (cI, 4, .inl (P))), (hd, .inl (cI, 4, .inl (Hd))), (ha, .inl (cI, 4, .inl (HA))), (lo, .inl (cI, 4, .inl (Lo))), (ol, .inl (cI, 4, .inl (Ol))), (as_, .inl (cI, 64, .inl (AS)))]) [9, 0, 1, 10, 2, 3, 4, 5, 6, 7, 8] (by decide) rfl
        exact pw_iret hx hb hr (rfl) hlocks dX3_end_53 hS hP hD (⟨rfl, rfl⟩)
  · have _h := c_1
    refine lv_iconst (v := nI 1) hx hb dX3_end_13 (by decide) ?_
    refine lv_goto (tgt := 18) hx hb dX3_end_14 (by decide) ?_
    -- m_in_t
    refine pw_cSp (As := [.int (way), .int (nI 0), .int (nI 1)]) (rest := []) ⟨hx, hb, hml, hown, hts⟩ (m_in_t l D cI cP cR way (nI 0) (nI 1) (⟨hw.1, by have h2 := hw.2; rw [if_neg c_1] at h2; exact h2⟩)) (va_cwS 3 hts gX3_end_X3_in rfl rfl rfl (by decide +kernel) ⟨Nat.le_of_ble_eq_true rfl, Nat.le_of_ble_eq_true rfl⟩) hK rfl hl.1 rfl (Nat.le_of_ble_eq_true rfl) dX3_end_18 ⟨Nat.zero_le _, Nat.zero_le _⟩ ?_
    refine lv_if_ne (tgt := 26) hx hb dX3_end_21 (by decide) (fun c => ?_) (fun c => absurd c (by decide))
    refine lv_aload_n hx hb dX3_end_26 rfl (lv_at hl 0 rfl) ?_
    refine va_get (D := D) (ci := 3) (v := .ref z) (C := RX3) (T := TX3) (N := 11) hx hb hts hi_X3_end_3 hown hK.1 hP 0 rfl rfl 1 (by decide) (hts _ hf_X3_end_13) (fun _ h9 => h9) rfl dX3_end_27 ?_
    refine lv_iload_n hx hb dX3_end_30 rfl (lv_at hl 1 rfl) ?_
    refine pw_iald hx hb hK.1 hP 2 0 rfl rfl (by decide) (by omega) dX3_end_31 ?_
    refine pw_top (y := nI (Z i)) rfl ?_
    refine pw_if_ne (tgt := 54) hx hb (by omega) dX3_end_32 (by decide) (fun c_4 => ?_) (fun c_4 => ?_)
    · exact absurd hzz c_4
    · have _h := c_4
      refine lv_iload_n hx hb dX3_end_35 rfl (lv_at hl 3 rfl) ?_
      refine lv_iconst (v := nI 2) hx hb dX3_end_36 (by decide) ?_
      refine lv_irem hx hb dX3_end_37 (by decide) ?_
      refine lv_if_ne (tgt := 51) hx hb dX3_end_38 (by decide) (fun c_5 => ?_) (fun c_5 => ?_)
      · exact absurd he c_5
      · have _h := c_5
        refine lv_aload_n hx hb dX3_end_41 rfl (lv_at hl 0 rfl) ?_
        refine lv_iconst (v := nI 0) hx hb dX3_end_42 (by decide) ?_
        refine lv_bipush (v := -6) hx hb dX3_end_43 (by decide) ?_
        -- m_refuse
        refine pw_cVm (As := [.int (nI 0), .int (-6)]) (rest := []) (wc := [(x, .inr (3, [.ref t, .ref z, .int (nI md), .ref rf, .ref rw, .ref pl, .ref hd, .ref ha, .ref lo, .ref ol, .ref as_])), (rf, .inl (cI, 4, .inl (RF)))]) (wr := [(t, .inl (cI, 192, .inl (flT T))), (z, .inl (cI, 3, .inl (zI Z))), (rw, .inl (cI, 4, .inl (R))), (pl, .inl (cI, 4, .inl (P))), (hd, .inl (cI, 4, .inl (Hd))), (ha, .inl (cI, 4, .inl (HA))), (lo, .inl (cI, 4, .inl (Lo))), (ol, .inl (cI, 4, .inl (Ol))), (as_, .inl (cI, 64, .inl (AS)))]) ⟨hx, hb, hml, hown, hts⟩ (m_refuse l D cI cP cR x t z rf rw pl hd ha lo ol as_ md RF 0 (-6) (by decide)) (cwV 2 hts gX3_end_X3_refuse rfl rfl rfl (by decide +kernel) ⟨Nat.le_of_ble_eq_true rfl, Nat.le_of_ble_eq_true rfl⟩) hK hP hD hS hA [0, 3] [1, 2, 4, 5, 6, 7, 8, 9, 10] rfl rfl (by decide) (by decide) (by decide) 0 rfl rfl rfl rfl hl.1 rfl (Nat.le_of_ble_eq_true rfl) dX3_end_45 ⟨Nat.zero_le _, Nat.zero_le _⟩ (fun v1 w1 H locs hq hP hD hS => ?_)
        rcases hq with ⟨rfl, rfl⟩
        have hP : va_P D vwCl ([(t, .inl (cI, 192, .inl (flT T))), (z, .inl (cI, 3, .inl (zI Z))), (rw, .inl (cI, 4, .inl (R))), (pl, .inl (cI, 4, .inl (P))), (hd, .inl (cI, 4, .inl (Hd))), (ha, .inl (cI, 4, .inl (HA))), (lo, .inl (cI, 4, .inl (Lo))), (ol, .inl (cI, 4, .inl (Ol))), (as_, .inl (cI, 64, .inl (AS))), (x, .inr (3, [.ref t, .ref z, .int (nI md), .ref rf, .ref rw, .ref pl, .ref hd, .ref ha, .ref lo, .ref ol, .ref as_])), (rf, .inl (cI, 4, .inl (upd RF 0 (RF 0 + nI 1))))]) H := hP
        have hD : va_D A ([(t, .inl (cI, 192, .inl (flT T))), (z, .inl (cI, 3, .inl (zI Z))), (rw, .inl (cI, 4, .inl (R))), (pl, .inl (cI, 4, .inl (P))), (hd, .inl (cI, 4, .inl (Hd))), (ha, .inl (cI, 4, .inl (HA))), (lo, .inl (cI, 4, .inl (Lo))), (ol, .inl (cI, 4, .inl (Ol))), (as_, .inl (cI, 64, .inl (AS))), (x, .inr (3, [.ref t, .ref z, .int (nI md), .ref rf, .ref rw, .ref pl, .ref hd, .ref ha, .ref lo, .ref ol, .ref as_])), (rf, .inl (cI, 4, .inl (upd RF 0 (RF 0 + nI 1))))]) := hD
        refine W.eq (g2 := F0 m 48 ls [.int (-6)]) rfl ?_
        refine lv_goto (tgt := 53) hx hb dX3_end_48 (by decide) ?_
        have hP := hP.sub (ws' := [(x, .inr (3, [.ref t, .ref z, .int (nI md), .ref rf, .ref rw, .ref pl, .ref hd, .ref ha, .ref lo, .ref ol, .ref as_])), (t, .inl (cI, 192, .inl (flT T))), (z, .inl (cI, 3, .inl (zI Z))), (rf, .inl (cI, 4, .inl (upd RF 0 (RF 0 + nI 1)))), (rw, .inl (cI, 4, .inl (R))), (pl, .inl (cI, 4, .inl (P))), (hd, .inl (cI, 4, .inl (Hd))), (ha, .inl (cI, 4, .inl (HA))), (lo, .inl (cI, 4, .inl (Lo))), (ol, .inl (cI, 4, .inl (Ol))), (as_, .inl (cI, 64, .inl (AS)))]) [9, 0, 1, 10, 2, 3, 4, 5, 6, 7, 8] rfl
        have hD := hD.sub (ws' := [(x, .inr (3, [.ref t, .ref z, .int (nI md), .ref rf, .ref rw, .ref pl, .ref hd, .ref ha, .ref lo, .ref ol, .ref as_])), (t, .inl (cI, 192, .inl (flT T))), (z, .inl (cI, 3, .inl (zI Z))), (rf, .inl (cI, 4, .inl (upd RF 0 (RF 0 + nI 1)))), (rw, .inl (cI, 4, .inl (R))), (pl, .inl (cI, 4, .inl (P))), (hd, .inl (cI, 4, .inl (Hd))), (ha, .inl (cI, 4, .inl (HA))), (lo, .inl (cI, 4, .inl (Lo))), (ol, .inl (cI, 4, .inl (Ol))), (as_, .inl (cI, 64, .inl (AS)))]) [9, 0, 1, 10, 2, 3, 4, 5, 6, 7, 8] (by decide) rfl
        exact pw_iret hx hb hr (rfl) hlocks dX3_end_53 hS hP hD (⟨rfl, rfl⟩)
set_option maxHeartbeats 4000000 in
set_option maxRecDepth 100000 in
theorem n_end_o (l : Launch) (D : va_G) (cI cP cR : ClassId) (x t z rf rw pl hd ha lo ol as_ md : Nat) (T : Nat → Nat → Int32) (Z : Nat → Nat) (RF R P Hd HA Lo Ol AS : Nat → Int32) (i : Nat) (hi : i < 3) (hz : Z i ≤ 60) (la way : Int32) (hw : (0 ≤ way ∧ way ≤ (if la = 0 then nI 3 else nI 1))) (hzz : Z i = 0) (he : ¬ way - way / nI 2 * nI 2 = 0) : pw_Mp l yX3_end wsX3_end ({ frames := 2, cells := 0, slots := 0, locals := 47 } : Room) D cI cP cR [.ref x, .int (nI i), .int (la), .int (way)] ([(x, .inr (3, [.ref t, .ref z, .int (nI md), .ref rf, .ref rw, .ref pl, .ref hd, .ref ha, .ref lo, .ref ol, .ref as_])), (t, .inl (cI, 192, .inl (flT T))), (z, .inl (cI, 3, .inl (zI Z))), (rf, .inl (cI, 4, .inl (RF))), (rw, .inl (cI, 4, .inl (R))), (pl, .inl (cI, 4, .inl (P))), (hd, .inl (cI, 4, .inl (Hd))), (ha, .inl (cI, 4, .inl (HA))), (lo, .inl (cI, 4, .inl (Lo))), (ol, .inl (cI, 4, .inl (Ol))), (as_, .inl (cI, 64, .inl (AS)))]) (.int (-6)) := by
  refine pw_ofp (cc := cX3_end) (maxL := 4) (ret := (some .int)) (own := RX3) (by decide +kernel) rfl rfl (Nat.le_of_ble_eq_true rfl) ?_
  intro p_ e_ s m bel meth cd hE hK hP hD ls hl
  obtain ⟨hx, hb, hr, hml, hown, hts, hlocks⟩ := hE
  have hNW := hK.2
  have hl : lv_has ls 4 [(0, .ref x), (1, .int (nI i)), (2, .int (la)), (3, .int (way))] := hl
  refine lv_iload_n hx hb dX3_end_0 rfl (lv_at hl 1 rfl) ?_
  -- m_isRow_t
  refine pw_cSp (As := [.int (nI i)]) (rest := []) ⟨hx, hb, hml, hown, hts⟩ (m_isRow_t l D cI cP cR i (by omega)) (va_cwS 1 hts gX3_end_X3_isRow rfl rfl rfl (by decide +kernel) ⟨Nat.le_of_ble_eq_true rfl, Nat.le_of_ble_eq_true rfl⟩) hK rfl hl.1 rfl (Nat.le_of_ble_eq_true rfl) dX3_end_1 ⟨Nat.zero_le _, Nat.zero_le _⟩ ?_
  refine lv_if_eq (tgt := 24) hx hb dX3_end_4 (by decide) (fun c => absurd c (by decide)) (fun c => ?_)
  refine lv_iload_n hx hb dX3_end_7 rfl (lv_at hl 3 rfl) ?_
  refine lv_iconst (v := nI 0) hx hb dX3_end_8 (by decide) ?_
  refine lv_iload_n hx hb dX3_end_9 rfl (lv_at hl 2 rfl) ?_
  refine lv_if_eq (tgt := 17) hx hb dX3_end_10 (by decide) (fun c_1 => ?_) (fun c_1 => ?_)
  · have _h := c_1
    refine lv_iconst (v := nI 3) hx hb dX3_end_17 (by decide) ?_
    -- m_in_t
    refine pw_cSp (As := [.int (way), .int (nI 0), .int (nI 3)]) (rest := []) ⟨hx, hb, hml, hown, hts⟩ (m_in_t l D cI cP cR way (nI 0) (nI 3) (⟨hw.1, by have h2 := hw.2; rw [if_pos c_1] at h2; exact h2⟩)) (va_cwS 3 hts gX3_end_X3_in rfl rfl rfl (by decide +kernel) ⟨Nat.le_of_ble_eq_true rfl, Nat.le_of_ble_eq_true rfl⟩) hK rfl hl.1 rfl (Nat.le_of_ble_eq_true rfl) dX3_end_18 ⟨Nat.zero_le _, Nat.zero_le _⟩ ?_
    refine lv_if_ne (tgt := 26) hx hb dX3_end_21 (by decide) (fun c => ?_) (fun c => absurd c (by decide))
    refine lv_aload_n hx hb dX3_end_26 rfl (lv_at hl 0 rfl) ?_
    refine va_get (D := D) (ci := 3) (v := .ref z) (C := RX3) (T := TX3) (N := 11) hx hb hts hi_X3_end_3 hown hK.1 hP 0 rfl rfl 1 (by decide) (hts _ hf_X3_end_13) (fun _ h9 => h9) rfl dX3_end_27 ?_
    refine lv_iload_n hx hb dX3_end_30 rfl (lv_at hl 1 rfl) ?_
    refine pw_iald hx hb hK.1 hP 2 0 rfl rfl (by decide) (by omega) dX3_end_31 ?_
    refine pw_top (y := nI (Z i)) rfl ?_
    refine pw_if_ne (tgt := 54) hx hb (by omega) dX3_end_32 (by decide) (fun c_2 => ?_) (fun c_2 => ?_)
    · exact absurd hzz c_2
    · have _h := c_2
      refine lv_iload_n hx hb dX3_end_35 rfl (lv_at hl 3 rfl) ?_
      refine lv_iconst (v := nI 2) hx hb dX3_end_36 (by decide) ?_
      refine lv_irem hx hb dX3_end_37 (by decide) ?_
      refine lv_if_ne (tgt := 51) hx hb dX3_end_38 (by decide) (fun c_3 => ?_) (fun c_3 => ?_)
      · have _h := c_3
        refine lv_bipush (v := -6) hx hb dX3_end_51 (by decide) ?_
        exact pw_piret hx hb hr (rfl) hlocks dX3_end_53 (rfl)
      · exact absurd c_3 he
  · have _h := c_1
    refine lv_iconst (v := nI 1) hx hb dX3_end_13 (by decide) ?_
    refine lv_goto (tgt := 18) hx hb dX3_end_14 (by decide) ?_
    -- m_in_t
    refine pw_cSp (As := [.int (way), .int (nI 0), .int (nI 1)]) (rest := []) ⟨hx, hb, hml, hown, hts⟩ (m_in_t l D cI cP cR way (nI 0) (nI 1) (⟨hw.1, by have h2 := hw.2; rw [if_neg c_1] at h2; exact h2⟩)) (va_cwS 3 hts gX3_end_X3_in rfl rfl rfl (by decide +kernel) ⟨Nat.le_of_ble_eq_true rfl, Nat.le_of_ble_eq_true rfl⟩) hK rfl hl.1 rfl (Nat.le_of_ble_eq_true rfl) dX3_end_18 ⟨Nat.zero_le _, Nat.zero_le _⟩ ?_
    refine lv_if_ne (tgt := 26) hx hb dX3_end_21 (by decide) (fun c => ?_) (fun c => absurd c (by decide))
    refine lv_aload_n hx hb dX3_end_26 rfl (lv_at hl 0 rfl) ?_
    refine va_get (D := D) (ci := 3) (v := .ref z) (C := RX3) (T := TX3) (N := 11) hx hb hts hi_X3_end_3 hown hK.1 hP 0 rfl rfl 1 (by decide) (hts _ hf_X3_end_13) (fun _ h9 => h9) rfl dX3_end_27 ?_
    refine lv_iload_n hx hb dX3_end_30 rfl (lv_at hl 1 rfl) ?_
    refine pw_iald hx hb hK.1 hP 2 0 rfl rfl (by decide) (by omega) dX3_end_31 ?_
    refine pw_top (y := nI (Z i)) rfl ?_
    refine pw_if_ne (tgt := 54) hx hb (by omega) dX3_end_32 (by decide) (fun c_4 => ?_) (fun c_4 => ?_)
    · exact absurd hzz c_4
    · have _h := c_4
      refine lv_iload_n hx hb dX3_end_35 rfl (lv_at hl 3 rfl) ?_
      refine lv_iconst (v := nI 2) hx hb dX3_end_36 (by decide) ?_
      refine lv_irem hx hb dX3_end_37 (by decide) ?_
      refine lv_if_ne (tgt := 51) hx hb dX3_end_38 (by decide) (fun c_5 => ?_) (fun c_5 => ?_)
      · have _h := c_5
        refine lv_bipush (v := -6) hx hb dX3_end_51 (by decide) ?_
        exact pw_piret hx hb hr (rfl) hlocks dX3_end_53 (rfl)
      · exact absurd c_5 he
set_option maxHeartbeats 4000000 in
set_option maxRecDepth 100000 in
theorem n_end (l : Launch) (D : va_G) (cI cP cR : ClassId) (x t z rf rw pl hd ha lo ol as_ md : Nat) (T : Nat → Nat → Int32) (Z : Nat → Nat) (RF R P Hd HA Lo Ol AS : Nat → Int32) (i : Nat) (hi : i < 3) (hz : Z i ≤ 60) (la way : Int32) (hw : (0 ≤ way ∧ way ≤ (if la = 0 then nI 3 else nI 1))) (hzz : ¬ Z i = 0) : pw_Mp l yX3_end wsX3_end ({ frames := 2, cells := 0, slots := 0, locals := 47 } : Room) D cI cP cR [.ref x, .int (nI i), .int (la), .int (way)] ([(x, .inr (3, [.ref t, .ref z, .int (nI md), .ref rf, .ref rw, .ref pl, .ref hd, .ref ha, .ref lo, .ref ol, .ref as_])), (t, .inl (cI, 192, .inl (flT T))), (z, .inl (cI, 3, .inl (zI Z))), (rf, .inl (cI, 4, .inl (RF))), (rw, .inl (cI, 4, .inl (R))), (pl, .inl (cI, 4, .inl (P))), (hd, .inl (cI, 4, .inl (Hd))), (ha, .inl (cI, 4, .inl (HA))), (lo, .inl (cI, 4, .inl (Lo))), (ol, .inl (cI, 4, .inl (Ol))), (as_, .inl (cI, 64, .inl (AS)))]) (.int (T i (plF la (Z i - 1)))) := by
  refine pw_ofp (cc := cX3_end) (maxL := 4) (ret := (some .int)) (own := RX3) (by decide +kernel) rfl rfl (Nat.le_of_ble_eq_true rfl) ?_
  intro p_ e_ s m bel meth cd hE hK hP hD ls hl
  obtain ⟨hx, hb, hr, hml, hown, hts, hlocks⟩ := hE
  have hNW := hK.2
  have hl : lv_has ls 4 [(0, .ref x), (1, .int (nI i)), (2, .int (la)), (3, .int (way))] := hl
  refine lv_iload_n hx hb dX3_end_0 rfl (lv_at hl 1 rfl) ?_
  -- m_isRow_t
  refine pw_cSp (As := [.int (nI i)]) (rest := []) ⟨hx, hb, hml, hown, hts⟩ (m_isRow_t l D cI cP cR i (by omega)) (va_cwS 1 hts gX3_end_X3_isRow rfl rfl rfl (by decide +kernel) ⟨Nat.le_of_ble_eq_true rfl, Nat.le_of_ble_eq_true rfl⟩) hK rfl hl.1 rfl (Nat.le_of_ble_eq_true rfl) dX3_end_1 ⟨Nat.zero_le _, Nat.zero_le _⟩ ?_
  refine lv_if_eq (tgt := 24) hx hb dX3_end_4 (by decide) (fun c => absurd c (by decide)) (fun c => ?_)
  refine lv_iload_n hx hb dX3_end_7 rfl (lv_at hl 3 rfl) ?_
  refine lv_iconst (v := nI 0) hx hb dX3_end_8 (by decide) ?_
  refine lv_iload_n hx hb dX3_end_9 rfl (lv_at hl 2 rfl) ?_
  refine lv_if_eq (tgt := 17) hx hb dX3_end_10 (by decide) (fun c_1 => ?_) (fun c_1 => ?_)
  · have _h := c_1
    refine lv_iconst (v := nI 3) hx hb dX3_end_17 (by decide) ?_
    -- m_in_t
    refine pw_cSp (As := [.int (way), .int (nI 0), .int (nI 3)]) (rest := []) ⟨hx, hb, hml, hown, hts⟩ (m_in_t l D cI cP cR way (nI 0) (nI 3) (⟨hw.1, by have h2 := hw.2; rw [if_pos c_1] at h2; exact h2⟩)) (va_cwS 3 hts gX3_end_X3_in rfl rfl rfl (by decide +kernel) ⟨Nat.le_of_ble_eq_true rfl, Nat.le_of_ble_eq_true rfl⟩) hK rfl hl.1 rfl (Nat.le_of_ble_eq_true rfl) dX3_end_18 ⟨Nat.zero_le _, Nat.zero_le _⟩ ?_
    refine lv_if_ne (tgt := 26) hx hb dX3_end_21 (by decide) (fun c => ?_) (fun c => absurd c (by decide))
    refine lv_aload_n hx hb dX3_end_26 rfl (lv_at hl 0 rfl) ?_
    refine va_get (D := D) (ci := 3) (v := .ref z) (C := RX3) (T := TX3) (N := 11) hx hb hts hi_X3_end_3 hown hK.1 hP 0 rfl rfl 1 (by decide) (hts _ hf_X3_end_13) (fun _ h9 => h9) rfl dX3_end_27 ?_
    refine lv_iload_n hx hb dX3_end_30 rfl (lv_at hl 1 rfl) ?_
    refine pw_iald hx hb hK.1 hP 2 0 rfl rfl (by decide) (by omega) dX3_end_31 ?_
    refine pw_top (y := nI (Z i)) rfl ?_
    refine pw_if_ne (tgt := 54) hx hb (by omega) dX3_end_32 (by decide) (fun c_2 => ?_) (fun c_2 => ?_)
    · have _h := c_2
      refine lv_aload_n hx hb dX3_end_54 rfl (lv_at hl 0 rfl) ?_
      refine lv_iload_n hx hb dX3_end_55 rfl (lv_at hl 1 rfl) ?_
      refine lv_iload_n hx hb dX3_end_56 rfl (lv_at hl 2 rfl) ?_
      refine lv_if_eq (tgt := 71) hx hb dX3_end_57 (by decide) (fun c_3 => ?_) (fun c_3 => ?_)
      · have _h := c_3
        refine lv_iconst (v := nI 0) hx hb dX3_end_71 (by decide) ?_
        -- m_thing
        refine pw_cVp (As := [.int (nI i), .int (nI 0)]) (rest := []) (wc := [(x, .inr (3, [.ref t, .ref z, .int (nI md), .ref rf, .ref rw, .ref pl, .ref hd, .ref ha, .ref lo, .ref ol, .ref as_])), (t, .inl (cI, 192, .inl (flT T)))]) ⟨hx, hb, hml, hown, hts⟩ (m_thing l D cI cP cR x t z rf rw pl hd ha lo ol as_ md T i 0 (by omega) (by omega)) (cwV 2 hts gX3_end_X3_thing rfl rfl rfl (by decide +kernel) ⟨Nat.le_of_ble_eq_true rfl, Nat.le_of_ble_eq_true rfl⟩) hK hP hD [0, 1] rfl (by decide) 0 rfl rfl rfl rfl hl.1 rfl (Nat.le_of_ble_eq_true rfl) dX3_end_72 ⟨Nat.zero_le _, Nat.zero_le _⟩ ?_
        exact pw_piret hx hb hr (rfl) hlocks dX3_end_75 (by unfold plF; rw [if_pos c_3])
      · have _h := c_3
        refine lv_aload_n hx hb dX3_end_60 rfl (lv_at hl 0 rfl) ?_
        refine va_get (D := D) (ci := 3) (v := .ref z) (C := RX3) (T := TX3) (N := 11) hx hb hts hi_X3_end_3 hown hK.1 hP 0 rfl rfl 1 (by decide) (hts _ hf_X3_end_13) (fun _ h9 => h9) rfl dX3_end_61 ?_
        refine lv_iload_n hx hb dX3_end_64 rfl (lv_at hl 1 rfl) ?_
        refine pw_iald hx hb hK.1 hP 2 0 rfl rfl (by decide) (by omega) dX3_end_65 ?_
        refine pw_top (y := nI (Z i)) rfl ?_
        refine lv_iconst (v := nI 1) hx hb dX3_end_66 (by decide) ?_
        refine pw_isub hx hb (by omega) dX3_end_67 ?_
        refine lv_goto (tgt := 72) hx hb dX3_end_68 (by decide) ?_
        -- m_thing
        refine pw_cVp (As := [.int (nI i), .int (nI ((Z i) - 1))]) (rest := []) (wc := [(x, .inr (3, [.ref t, .ref z, .int (nI md), .ref rf, .ref rw, .ref pl, .ref hd, .ref ha, .ref lo, .ref ol, .ref as_])), (t, .inl (cI, 192, .inl (flT T)))]) ⟨hx, hb, hml, hown, hts⟩ (m_thing l D cI cP cR x t z rf rw pl hd ha lo ol as_ md T i ((Z i) - 1) (by omega) (by omega)) (cwV 2 hts gX3_end_X3_thing rfl rfl rfl (by decide +kernel) ⟨Nat.le_of_ble_eq_true rfl, Nat.le_of_ble_eq_true rfl⟩) hK hP hD [0, 1] rfl (by decide) 0 rfl rfl rfl rfl hl.1 rfl (Nat.le_of_ble_eq_true rfl) dX3_end_72 ⟨Nat.zero_le _, Nat.zero_le _⟩ ?_
        exact pw_piret hx hb hr (rfl) hlocks dX3_end_75 (by unfold plF; rw [if_neg c_3])
    · exact absurd c_2 hzz
  · have _h := c_1
    refine lv_iconst (v := nI 1) hx hb dX3_end_13 (by decide) ?_
    refine lv_goto (tgt := 18) hx hb dX3_end_14 (by decide) ?_
    -- m_in_t
    refine pw_cSp (As := [.int (way), .int (nI 0), .int (nI 1)]) (rest := []) ⟨hx, hb, hml, hown, hts⟩ (m_in_t l D cI cP cR way (nI 0) (nI 1) (⟨hw.1, by have h2 := hw.2; rw [if_neg c_1] at h2; exact h2⟩)) (va_cwS 3 hts gX3_end_X3_in rfl rfl rfl (by decide +kernel) ⟨Nat.le_of_ble_eq_true rfl, Nat.le_of_ble_eq_true rfl⟩) hK rfl hl.1 rfl (Nat.le_of_ble_eq_true rfl) dX3_end_18 ⟨Nat.zero_le _, Nat.zero_le _⟩ ?_
    refine lv_if_ne (tgt := 26) hx hb dX3_end_21 (by decide) (fun c => ?_) (fun c => absurd c (by decide))
    refine lv_aload_n hx hb dX3_end_26 rfl (lv_at hl 0 rfl) ?_
    refine va_get (D := D) (ci := 3) (v := .ref z) (C := RX3) (T := TX3) (N := 11) hx hb hts hi_X3_end_3 hown hK.1 hP 0 rfl rfl 1 (by decide) (hts _ hf_X3_end_13) (fun _ h9 => h9) rfl dX3_end_27 ?_
    refine lv_iload_n hx hb dX3_end_30 rfl (lv_at hl 1 rfl) ?_
    refine pw_iald hx hb hK.1 hP 2 0 rfl rfl (by decide) (by omega) dX3_end_31 ?_
    refine pw_top (y := nI (Z i)) rfl ?_
    refine pw_if_ne (tgt := 54) hx hb (by omega) dX3_end_32 (by decide) (fun c_4 => ?_) (fun c_4 => ?_)
    · have _h := c_4
      refine lv_aload_n hx hb dX3_end_54 rfl (lv_at hl 0 rfl) ?_
      refine lv_iload_n hx hb dX3_end_55 rfl (lv_at hl 1 rfl) ?_
      refine lv_iload_n hx hb dX3_end_56 rfl (lv_at hl 2 rfl) ?_
      refine lv_if_eq (tgt := 71) hx hb dX3_end_57 (by decide) (fun c_5 => ?_) (fun c_5 => ?_)
      · have _h := c_5
        refine lv_iconst (v := nI 0) hx hb dX3_end_71 (by decide) ?_
        -- m_thing
        refine pw_cVp (As := [.int (nI i), .int (nI 0)]) (rest := []) (wc := [(x, .inr (3, [.ref t, .ref z, .int (nI md), .ref rf, .ref rw, .ref pl, .ref hd, .ref ha, .ref lo, .ref ol, .ref as_])), (t, .inl (cI, 192, .inl (flT T)))]) ⟨hx, hb, hml, hown, hts⟩ (m_thing l D cI cP cR x t z rf rw pl hd ha lo ol as_ md T i 0 (by omega) (by omega)) (cwV 2 hts gX3_end_X3_thing rfl rfl rfl (by decide +kernel) ⟨Nat.le_of_ble_eq_true rfl, Nat.le_of_ble_eq_true rfl⟩) hK hP hD [0, 1] rfl (by decide) 0 rfl rfl rfl rfl hl.1 rfl (Nat.le_of_ble_eq_true rfl) dX3_end_72 ⟨Nat.zero_le _, Nat.zero_le _⟩ ?_
        exact pw_piret hx hb hr (rfl) hlocks dX3_end_75 (by unfold plF; rw [if_pos c_5])
      · have _h := c_5
        refine lv_aload_n hx hb dX3_end_60 rfl (lv_at hl 0 rfl) ?_
        refine va_get (D := D) (ci := 3) (v := .ref z) (C := RX3) (T := TX3) (N := 11) hx hb hts hi_X3_end_3 hown hK.1 hP 0 rfl rfl 1 (by decide) (hts _ hf_X3_end_13) (fun _ h9 => h9) rfl dX3_end_61 ?_
        refine lv_iload_n hx hb dX3_end_64 rfl (lv_at hl 1 rfl) ?_
        refine pw_iald hx hb hK.1 hP 2 0 rfl rfl (by decide) (by omega) dX3_end_65 ?_
        refine pw_top (y := nI (Z i)) rfl ?_
        refine lv_iconst (v := nI 1) hx hb dX3_end_66 (by decide) ?_
        refine pw_isub hx hb (by omega) dX3_end_67 ?_
        refine lv_goto (tgt := 72) hx hb dX3_end_68 (by decide) ?_
        -- m_thing
        refine pw_cVp (As := [.int (nI i), .int (nI ((Z i) - 1))]) (rest := []) (wc := [(x, .inr (3, [.ref t, .ref z, .int (nI md), .ref rf, .ref rw, .ref pl, .ref hd, .ref ha, .ref lo, .ref ol, .ref as_])), (t, .inl (cI, 192, .inl (flT T)))]) ⟨hx, hb, hml, hown, hts⟩ (m_thing l D cI cP cR x t z rf rw pl hd ha lo ol as_ md T i ((Z i) - 1) (by omega) (by omega)) (cwV 2 hts gX3_end_X3_thing rfl rfl rfl (by decide +kernel) ⟨Nat.le_of_ble_eq_true rfl, Nat.le_of_ble_eq_true rfl⟩) hK hP hD [0, 1] rfl (by decide) 0 rfl rfl rfl rfl hl.1 rfl (Nat.le_of_ble_eq_true rfl) dX3_end_72 ⟨Nat.zero_le _, Nat.zero_le _⟩ ?_
        exact pw_piret hx hb hr (rfl) hlocks dX3_end_75 (by unfold plF; rw [if_neg c_5])
    · exact absurd c_4 hzz
set_option maxHeartbeats 4000000 in
set_option maxRecDepth 100000 in
theorem n_take_x (l : Launch) (D : va_G) (cI cP cR : ClassId) (x t z rf rw pl hd ha lo ol as_ md : Nat) (T : Nat → Nat → Int32) (Z : Nat → Nat) (RF R P Hd HA Lo Ol AS : Nat → Int32) (row la way : Int32) (hbad : ¬ ((0 ≤ row ∧ row < nI 3) ∧ (0 ≤ way ∧ way ≤ (if la = 0 then nI 4 else nI 1)))) : pw_Mp l yX3_take wsX3_take ({ frames := 2, cells := 0, slots := 0, locals := 47 } : Room) D cI cP cR [.ref x, .int (row), .int (la), .int (way)] ([(x, .inr (3, [.ref t, .ref z, .int (nI md), .ref rf, .ref rw, .ref pl, .ref hd, .ref ha, .ref lo, .ref ol, .ref as_])), (t, .inl (cI, 192, .inl (flT T))), (z, .inl (cI, 3, .inl (zI Z))), (rf, .inl (cI, 4, .inl (RF))), (rw, .inl (cI, 4, .inl (R))), (pl, .inl (cI, 4, .inl (P))), (hd, .inl (cI, 4, .inl (Hd))), (ha, .inl (cI, 4, .inl (HA))), (lo, .inl (cI, 4, .inl (Lo))), (ol, .inl (cI, 4, .inl (Ol))), (as_, .inl (cI, 64, .inl (AS)))]) (.int (-1)) := by
  refine pw_ofp (cc := cX3_take) (maxL := 4) (ret := (some .int)) (own := RX3) (by decide +kernel) rfl rfl (Nat.le_of_ble_eq_true rfl) ?_
  intro p_ e_ s m bel meth cd hE hK hP hD ls hl
  obtain ⟨hx, hb, hr, hml, hown, hts, hlocks⟩ := hE
  have hNW := hK.2
  have hl : lv_has ls 4 [(0, .ref x), (1, .int (row)), (2, .int (la)), (3, .int (way))] := hl
  by_cases hx_row : 0 ≤ row ∧ row < nI 3
  · obtain ⟨rj_1, hrj_1, rfl⟩ := pw_inP (by decide) hx_row
    refine lv_iload_n hx hb dX3_take_0 rfl (lv_at hl 1 rfl) ?_
    -- m_isRow_t
    refine pw_cSp (As := [.int (nI rj_1)]) (rest := []) ⟨hx, hb, hml, hown, hts⟩ (m_isRow_t l D cI cP cR rj_1 (by omega)) (va_cwS 1 hts gX3_take_X3_isRow rfl rfl rfl (by decide +kernel) ⟨Nat.le_of_ble_eq_true rfl, Nat.le_of_ble_eq_true rfl⟩) hK rfl hl.1 rfl (Nat.le_of_ble_eq_true rfl) dX3_take_1 ⟨Nat.zero_le _, Nat.zero_le _⟩ ?_
    refine lv_if_eq (tgt := 24) hx hb dX3_take_4 (by decide) (fun c => absurd c (by decide)) (fun c => ?_)
    refine lv_iload_n hx hb dX3_take_7 rfl (lv_at hl 3 rfl) ?_
    refine lv_iconst (v := nI 0) hx hb dX3_take_8 (by decide) ?_
    refine lv_iload_n hx hb dX3_take_9 rfl (lv_at hl 2 rfl) ?_
    refine lv_if_eq (tgt := 17) hx hb dX3_take_10 (by decide) (fun c_2 => ?_) (fun c_2 => ?_)
    · have _h := c_2
      refine lv_iconst (v := nI 4) hx hb dX3_take_17 (by decide) ?_
      -- m_in_f
      refine pw_cSp (As := [.int (way), .int (nI 0), .int (nI 4)]) (rest := []) ⟨hx, hb, hml, hown, hts⟩ (m_in_f l D cI cP cR way (nI 0) (nI 4) (fun h => hbad ⟨hx_row, h.1, by rw [if_pos c_2]; exact h.2⟩)) (va_cwS 3 hts gX3_take_X3_in rfl rfl rfl (by decide +kernel) ⟨Nat.le_of_ble_eq_true rfl, Nat.le_of_ble_eq_true rfl⟩) hK rfl hl.1 rfl (Nat.le_of_ble_eq_true rfl) dX3_take_18 ⟨Nat.zero_le _, Nat.zero_le _⟩ ?_
      refine lv_if_ne (tgt := 26) hx hb dX3_take_21 (by decide) (fun c => absurd c (by decide)) (fun c => ?_)
      refine lv_iconst (v := -1) hx hb dX3_take_24 (by decide) ?_
      exact pw_piret hx hb hr (rfl) hlocks dX3_take_25 (rfl)
    · have _h := c_2
      refine lv_iconst (v := nI 1) hx hb dX3_take_13 (by decide) ?_
      refine lv_goto (tgt := 18) hx hb dX3_take_14 (by decide) ?_
      -- m_in_f
      refine pw_cSp (As := [.int (way), .int (nI 0), .int (nI 1)]) (rest := []) ⟨hx, hb, hml, hown, hts⟩ (m_in_f l D cI cP cR way (nI 0) (nI 1) (fun h => hbad ⟨hx_row, h.1, by rw [if_neg c_2]; exact h.2⟩)) (va_cwS 3 hts gX3_take_X3_in rfl rfl rfl (by decide +kernel) ⟨Nat.le_of_ble_eq_true rfl, Nat.le_of_ble_eq_true rfl⟩) hK rfl hl.1 rfl (Nat.le_of_ble_eq_true rfl) dX3_take_18 ⟨Nat.zero_le _, Nat.zero_le _⟩ ?_
      refine lv_if_ne (tgt := 26) hx hb dX3_take_21 (by decide) (fun c => absurd c (by decide)) (fun c => ?_)
      refine lv_iconst (v := -1) hx hb dX3_take_24 (by decide) ?_
      exact pw_piret hx hb hr (rfl) hlocks dX3_take_25 (rfl)
  · have _h := hx_row
    refine lv_iload_n hx hb dX3_take_0 rfl (lv_at hl 1 rfl) ?_
    -- m_isRow_f
    refine pw_cSp (As := [.int (row)]) (rest := []) ⟨hx, hb, hml, hown, hts⟩ (m_isRow_f l D cI cP cR row hx_row) (va_cwS 1 hts gX3_take_X3_isRow rfl rfl rfl (by decide +kernel) ⟨Nat.le_of_ble_eq_true rfl, Nat.le_of_ble_eq_true rfl⟩) hK rfl hl.1 rfl (Nat.le_of_ble_eq_true rfl) dX3_take_1 ⟨Nat.zero_le _, Nat.zero_le _⟩ ?_
    refine lv_if_eq (tgt := 24) hx hb dX3_take_4 (by decide) (fun c => ?_) (fun c => absurd c (by decide))
    refine lv_iconst (v := -1) hx hb dX3_take_24 (by decide) ?_
    exact pw_piret hx hb hr (rfl) hlocks dX3_take_25 (rfl)
theorem hi_X3_take_3 : ∀ w ∈ u_ws RX3 TX3 11, w ∈ wsX3_take := by decide +kernel
theorem hf_X3_take_13 : Cond.fieldLink RX3 13 "PegrowModel" "sizes" "[I" ∈ wsX3_take := by decide +kernel
set_option maxHeartbeats 4000000 in
set_option maxRecDepth 100000 in
theorem n_take_e (l : Launch) (D : va_G) (cI cP cR : ClassId) (x t z rf rw pl hd ha lo ol as_ md : Nat) (T : Nat → Nat → Int32) (Z : Nat → Nat) (RF R P Hd HA Lo Ol AS : Nat → Int32) (i : Nat) (hi : i < 3) (hz : Z i ≤ 60) (la way : Int32) (hw : (0 ≤ way ∧ way ≤ (if la = 0 then nI 4 else nI 1))) (hzz : Z i = 0) (he : way - way / nI 2 * nI 2 = 0) : pw_Mm l yX3_take wsX3_take ({ frames := 2, cells := 0, slots := 0, locals := 47 } : Room) D cI cP cR [.ref x, .int (nI i), .int (la), .int (way)] ([(x, .inr (3, [.ref t, .ref z, .int (nI md), .ref rf, .ref rw, .ref pl, .ref hd, .ref ha, .ref lo, .ref ol, .ref as_])), (t, .inl (cI, 192, .inl (flT T))), (z, .inl (cI, 3, .inl (zI Z))), (rf, .inl (cI, 4, .inl (RF))), (rw, .inl (cI, 4, .inl (R))), (pl, .inl (cI, 4, .inl (P))), (hd, .inl (cI, 4, .inl (Hd))), (ha, .inl (cI, 4, .inl (HA))), (lo, .inl (cI, 4, .inl (Lo))), (ol, .inl (cI, 4, .inl (Ol))), (as_, .inl (cI, 64, .inl (AS)))]) (fun v w => v = some (.int (-6)) ∧ w = [(x, .inr (3, [.ref t, .ref z, .int (nI md), .ref rf, .ref rw, .ref pl, .ref hd, .ref ha, .ref lo, .ref ol, .ref as_])), (t, .inl (cI, 192, .inl (flT T))), (z, .inl (cI, 3, .inl (zI Z))), (rf, .inl (cI, 4, .inl (upd RF 0 (RF 0 + nI 1)))), (rw, .inl (cI, 4, .inl (R))), (pl, .inl (cI, 4, .inl (P))), (hd, .inl (cI, 4, .inl (Hd))), (ha, .inl (cI, 4, .inl (HA))), (lo, .inl (cI, 4, .inl (Lo))), (ol, .inl (cI, 4, .inl (Ol))), (as_, .inl (cI, 64, .inl (AS)))]) := by
  refine pw_ofm (cc := cX3_take) (maxL := 4) (ret := (some .int)) (own := RX3) (by decide +kernel) rfl rfl (Nat.le_of_ble_eq_true rfl) ?_
  intro p_ e_ s m bel meth cd A hE hK hP hD hA hS ls hl
  obtain ⟨hx, hb, hr, hml, hown, hts, hlocks⟩ := hE
  have hNW := hK.2
  have hl : lv_has ls 4 [(0, .ref x), (1, .int (nI i)), (2, .int (la)), (3, .int (way))] := hl
  refine lv_iload_n hx hb dX3_take_0 rfl (lv_at hl 1 rfl) ?_
  -- m_isRow_t
  refine pw_cSp (As := [.int (nI i)]) (rest := []) ⟨hx, hb, hml, hown, hts⟩ (m_isRow_t l D cI cP cR i (by omega)) (va_cwS 1 hts gX3_take_X3_isRow rfl rfl rfl (by decide +kernel) ⟨Nat.le_of_ble_eq_true rfl, Nat.le_of_ble_eq_true rfl⟩) hK rfl hl.1 rfl (Nat.le_of_ble_eq_true rfl) dX3_take_1 ⟨Nat.zero_le _, Nat.zero_le _⟩ ?_
  refine lv_if_eq (tgt := 24) hx hb dX3_take_4 (by decide) (fun c => absurd c (by decide)) (fun c => ?_)
  refine lv_iload_n hx hb dX3_take_7 rfl (lv_at hl 3 rfl) ?_
  refine lv_iconst (v := nI 0) hx hb dX3_take_8 (by decide) ?_
  refine lv_iload_n hx hb dX3_take_9 rfl (lv_at hl 2 rfl) ?_
  refine lv_if_eq (tgt := 17) hx hb dX3_take_10 (by decide) (fun c_1 => ?_) (fun c_1 => ?_)
  · have _h := c_1
    refine lv_iconst (v := nI 4) hx hb dX3_take_17 (by decide) ?_
    -- m_in_t
    refine pw_cSp (As := [.int (way), .int (nI 0), .int (nI 4)]) (rest := []) ⟨hx, hb, hml, hown, hts⟩ (m_in_t l D cI cP cR way (nI 0) (nI 4) (⟨hw.1, by have h2 := hw.2; rw [if_pos c_1] at h2; exact h2⟩)) (va_cwS 3 hts gX3_take_X3_in rfl rfl rfl (by decide +kernel) ⟨Nat.le_of_ble_eq_true rfl, Nat.le_of_ble_eq_true rfl⟩) hK rfl hl.1 rfl (Nat.le_of_ble_eq_true rfl) dX3_take_18 ⟨Nat.zero_le _, Nat.zero_le _⟩ ?_
    refine lv_if_ne (tgt := 26) hx hb dX3_take_21 (by decide) (fun c => ?_) (fun c => absurd c (by decide))
    refine lv_aload_n hx hb dX3_take_26 rfl (lv_at hl 0 rfl) ?_
    refine va_get (D := D) (ci := 3) (v := .ref z) (C := RX3) (T := TX3) (N := 11) hx hb hts hi_X3_take_3 hown hK.1 hP 0 rfl rfl 1 (by decide) (hts _ hf_X3_take_13) (fun _ h9 => h9) rfl dX3_take_27 ?_
    refine lv_iload_n hx hb dX3_take_30 rfl (lv_at hl 1 rfl) ?_
    refine pw_iald hx hb hK.1 hP 2 0 rfl rfl (by decide) (by omega) dX3_take_31 ?_
    refine pw_top (y := nI (Z i)) rfl ?_
    refine pw_if_ne (tgt := 54) hx hb (by omega) dX3_take_32 (by decide) (fun c_2 => ?_) (fun c_2 => ?_)
    · exact absurd hzz c_2
    · have _h := c_2
      refine lv_iload_n hx hb dX3_take_35 rfl (lv_at hl 3 rfl) ?_
      refine lv_iconst (v := nI 2) hx hb dX3_take_36 (by decide) ?_
      refine lv_irem hx hb dX3_take_37 (by decide) ?_
      refine lv_if_ne (tgt := 51) hx hb dX3_take_38 (by decide) (fun c_3 => ?_) (fun c_3 => ?_)
      · exact absurd he c_3
      · have _h := c_3
        refine lv_aload_n hx hb dX3_take_41 rfl (lv_at hl 0 rfl) ?_
        refine lv_iconst (v := nI 0) hx hb dX3_take_42 (by decide) ?_
        refine lv_bipush (v := -6) hx hb dX3_take_43 (by decide) ?_
        -- m_refuse
        refine pw_cVm (As := [.int (nI 0), .int (-6)]) (rest := []) (wc := [(x, .inr (3, [.ref t, .ref z, .int (nI md), .ref rf, .ref rw, .ref pl, .ref hd, .ref ha, .ref lo, .ref ol, .ref as_])), (rf, .inl (cI, 4, .inl (RF)))]) (wr := [(t, .inl (cI, 192, .inl (flT T))), (z, .inl (cI, 3, .inl (zI Z))), (rw, .inl (cI, 4, .inl (R))), (pl, .inl (cI, 4, .inl (P))), (hd, .inl (cI, 4, .inl (Hd))), (ha, .inl (cI, 4, .inl (HA))), (lo, .inl (cI, 4, .inl (Lo))), (ol, .inl (cI, 4, .inl (Ol))), (as_, .inl (cI, 64, .inl (AS)))]) ⟨hx, hb, hml, hown, hts⟩ (m_refuse l D cI cP cR x t z rf rw pl hd ha lo ol as_ md RF 0 (-6) (by decide)) (cwV 2 hts gX3_take_X3_refuse rfl rfl rfl (by decide +kernel) ⟨Nat.le_of_ble_eq_true rfl, Nat.le_of_ble_eq_true rfl⟩) hK hP hD hS hA [0, 3] [1, 2, 4, 5, 6, 7, 8, 9, 10] rfl rfl (by decide) (by decide) (by decide) 0 rfl rfl rfl rfl hl.1 rfl (Nat.le_of_ble_eq_true rfl) dX3_take_45 ⟨Nat.zero_le _, Nat.zero_le _⟩ (fun v1 w1 H locs hq hP hD hS => ?_)
        rcases hq with ⟨rfl, rfl⟩
        have hP : va_P D vwCl ([(t, .inl (cI, 192, .inl (flT T))), (z, .inl (cI, 3, .inl (zI Z))), (rw, .inl (cI, 4, .inl (R))), (pl, .inl (cI, 4, .inl (P))), (hd, .inl (cI, 4, .inl (Hd))), (ha, .inl (cI, 4, .inl (HA))), (lo, .inl (cI, 4, .inl (Lo))), (ol, .inl (cI, 4, .inl (Ol))), (as_, .inl (cI, 64, .inl (AS))), (x, .inr (3, [.ref t, .ref z, .int (nI md), .ref rf, .ref rw, .ref pl, .ref hd, .ref ha, .ref lo, .ref ol, .ref as_])), (rf, .inl (cI, 4, .inl (upd RF 0 (RF 0 + nI 1))))]) H := hP
        have hD : va_D A ([(t, .inl (cI, 192, .inl (flT T))), (z, .inl (cI, 3, .inl (zI Z))), (rw, .inl (cI, 4, .inl (R))), (pl, .inl (cI, 4, .inl (P))), (hd, .inl (cI, 4, .inl (Hd))), (ha, .inl (cI, 4, .inl (HA))), (lo, .inl (cI, 4, .inl (Lo))), (ol, .inl (cI, 4, .inl (Ol))), (as_, .inl (cI, 64, .inl (AS))), (x, .inr (3, [.ref t, .ref z, .int (nI md), .ref rf, .ref rw, .ref pl, .ref hd, .ref ha, .ref lo, .ref ol, .ref as_])), (rf, .inl (cI, 4, .inl (upd RF 0 (RF 0 + nI 1))))]) := hD
        refine W.eq (g2 := F0 m 48 ls [.int (-6)]) rfl ?_
        refine lv_goto (tgt := 53) hx hb dX3_take_48 (by decide) ?_
        have hP := hP.sub (ws' := [(x, .inr (3, [.ref t, .ref z, .int (nI md), .ref rf, .ref rw, .ref pl, .ref hd, .ref ha, .ref lo, .ref ol, .ref as_])), (t, .inl (cI, 192, .inl (flT T))), (z, .inl (cI, 3, .inl (zI Z))), (rf, .inl (cI, 4, .inl (upd RF 0 (RF 0 + nI 1)))), (rw, .inl (cI, 4, .inl (R))), (pl, .inl (cI, 4, .inl (P))), (hd, .inl (cI, 4, .inl (Hd))), (ha, .inl (cI, 4, .inl (HA))), (lo, .inl (cI, 4, .inl (Lo))), (ol, .inl (cI, 4, .inl (Ol))), (as_, .inl (cI, 64, .inl (AS)))]) [9, 0, 1, 10, 2, 3, 4, 5, 6, 7, 8] rfl
        have hD := hD.sub (ws' := [(x, .inr (3, [.ref t, .ref z, .int (nI md), .ref rf, .ref rw, .ref pl, .ref hd, .ref ha, .ref lo, .ref ol, .ref as_])), (t, .inl (cI, 192, .inl (flT T))), (z, .inl (cI, 3, .inl (zI Z))), (rf, .inl (cI, 4, .inl (upd RF 0 (RF 0 + nI 1)))), (rw, .inl (cI, 4, .inl (R))), (pl, .inl (cI, 4, .inl (P))), (hd, .inl (cI, 4, .inl (Hd))), (ha, .inl (cI, 4, .inl (HA))), (lo, .inl (cI, 4, .inl (Lo))), (ol, .inl (cI, 4, .inl (Ol))), (as_, .inl (cI, 64, .inl (AS)))]) [9, 0, 1, 10, 2, 3, 4, 5, 6, 7, 8] (by decide) rfl
        exact pw_iret hx hb hr (rfl) hlocks dX3_take_53 hS hP hD (⟨rfl, rfl⟩)
  · have _h := c_1
    refine lv_iconst (v := nI 1) hx hb dX3_take_13 (by decide) ?_
    refine lv_goto (tgt := 18) hx hb dX3_take_14 (by decide) ?_
    -- m_in_t
    refine pw_cSp (As := [.int (way), .int (nI 0), .int (nI 1)]) (rest := []) ⟨hx, hb, hml, hown, hts⟩ (m_in_t l D cI cP cR way (nI 0) (nI 1) (⟨hw.1, by have h2 := hw.2; rw [if_neg c_1] at h2; exact h2⟩)) (va_cwS 3 hts gX3_take_X3_in rfl rfl rfl (by decide +kernel) ⟨Nat.le_of_ble_eq_true rfl, Nat.le_of_ble_eq_true rfl⟩) hK rfl hl.1 rfl (Nat.le_of_ble_eq_true rfl) dX3_take_18 ⟨Nat.zero_le _, Nat.zero_le _⟩ ?_
    refine lv_if_ne (tgt := 26) hx hb dX3_take_21 (by decide) (fun c => ?_) (fun c => absurd c (by decide))
    refine lv_aload_n hx hb dX3_take_26 rfl (lv_at hl 0 rfl) ?_
    refine va_get (D := D) (ci := 3) (v := .ref z) (C := RX3) (T := TX3) (N := 11) hx hb hts hi_X3_take_3 hown hK.1 hP 0 rfl rfl 1 (by decide) (hts _ hf_X3_take_13) (fun _ h9 => h9) rfl dX3_take_27 ?_
    refine lv_iload_n hx hb dX3_take_30 rfl (lv_at hl 1 rfl) ?_
    refine pw_iald hx hb hK.1 hP 2 0 rfl rfl (by decide) (by omega) dX3_take_31 ?_
    refine pw_top (y := nI (Z i)) rfl ?_
    refine pw_if_ne (tgt := 54) hx hb (by omega) dX3_take_32 (by decide) (fun c_4 => ?_) (fun c_4 => ?_)
    · exact absurd hzz c_4
    · have _h := c_4
      refine lv_iload_n hx hb dX3_take_35 rfl (lv_at hl 3 rfl) ?_
      refine lv_iconst (v := nI 2) hx hb dX3_take_36 (by decide) ?_
      refine lv_irem hx hb dX3_take_37 (by decide) ?_
      refine lv_if_ne (tgt := 51) hx hb dX3_take_38 (by decide) (fun c_5 => ?_) (fun c_5 => ?_)
      · exact absurd he c_5
      · have _h := c_5
        refine lv_aload_n hx hb dX3_take_41 rfl (lv_at hl 0 rfl) ?_
        refine lv_iconst (v := nI 0) hx hb dX3_take_42 (by decide) ?_
        refine lv_bipush (v := -6) hx hb dX3_take_43 (by decide) ?_
        -- m_refuse
        refine pw_cVm (As := [.int (nI 0), .int (-6)]) (rest := []) (wc := [(x, .inr (3, [.ref t, .ref z, .int (nI md), .ref rf, .ref rw, .ref pl, .ref hd, .ref ha, .ref lo, .ref ol, .ref as_])), (rf, .inl (cI, 4, .inl (RF)))]) (wr := [(t, .inl (cI, 192, .inl (flT T))), (z, .inl (cI, 3, .inl (zI Z))), (rw, .inl (cI, 4, .inl (R))), (pl, .inl (cI, 4, .inl (P))), (hd, .inl (cI, 4, .inl (Hd))), (ha, .inl (cI, 4, .inl (HA))), (lo, .inl (cI, 4, .inl (Lo))), (ol, .inl (cI, 4, .inl (Ol))), (as_, .inl (cI, 64, .inl (AS)))]) ⟨hx, hb, hml, hown, hts⟩ (m_refuse l D cI cP cR x t z rf rw pl hd ha lo ol as_ md RF 0 (-6) (by decide)) (cwV 2 hts gX3_take_X3_refuse rfl rfl rfl (by decide +kernel) ⟨Nat.le_of_ble_eq_true rfl, Nat.le_of_ble_eq_true rfl⟩) hK hP hD hS hA [0, 3] [1, 2, 4, 5, 6, 7, 8, 9, 10] rfl rfl (by decide) (by decide) (by decide) 0 rfl rfl rfl rfl hl.1 rfl (Nat.le_of_ble_eq_true rfl) dX3_take_45 ⟨Nat.zero_le _, Nat.zero_le _⟩ (fun v1 w1 H locs hq hP hD hS => ?_)
        rcases hq with ⟨rfl, rfl⟩
        have hP : va_P D vwCl ([(t, .inl (cI, 192, .inl (flT T))), (z, .inl (cI, 3, .inl (zI Z))), (rw, .inl (cI, 4, .inl (R))), (pl, .inl (cI, 4, .inl (P))), (hd, .inl (cI, 4, .inl (Hd))), (ha, .inl (cI, 4, .inl (HA))), (lo, .inl (cI, 4, .inl (Lo))), (ol, .inl (cI, 4, .inl (Ol))), (as_, .inl (cI, 64, .inl (AS))), (x, .inr (3, [.ref t, .ref z, .int (nI md), .ref rf, .ref rw, .ref pl, .ref hd, .ref ha, .ref lo, .ref ol, .ref as_])), (rf, .inl (cI, 4, .inl (upd RF 0 (RF 0 + nI 1))))]) H := hP
        have hD : va_D A ([(t, .inl (cI, 192, .inl (flT T))), (z, .inl (cI, 3, .inl (zI Z))), (rw, .inl (cI, 4, .inl (R))), (pl, .inl (cI, 4, .inl (P))), (hd, .inl (cI, 4, .inl (Hd))), (ha, .inl (cI, 4, .inl (HA))), (lo, .inl (cI, 4, .inl (Lo))), (ol, .inl (cI, 4, .inl (Ol))), (as_, .inl (cI, 64, .inl (AS))), (x, .inr (3, [.ref t, .ref z, .int (nI md), .ref rf, .ref rw, .ref pl, .ref hd, .ref ha, .ref lo, .ref ol, .ref as_])), (rf, .inl (cI, 4, .inl (upd RF 0 (RF 0 + nI 1))))]) := hD
        refine W.eq (g2 := F0 m 48 ls [.int (-6)]) rfl ?_
        refine lv_goto (tgt := 53) hx hb dX3_take_48 (by decide) ?_
        have hP := hP.sub (ws' := [(x, .inr (3, [.ref t, .ref z, .int (nI md), .ref rf, .ref rw, .ref pl, .ref hd, .ref ha, .ref lo, .ref ol, .ref as_])), (t, .inl (cI, 192, .inl (flT T))), (z, .inl (cI, 3, .inl (zI Z))), (rf, .inl (cI, 4, .inl (upd RF 0 (RF 0 + nI 1)))), (rw, .inl (cI, 4, .inl (R))), (pl, .inl (cI, 4, .inl (P))), (hd, .inl (cI, 4, .inl (Hd))), (ha, .inl (cI, 4, .inl (HA))), (lo, .inl (cI, 4, .inl (Lo))), (ol, .inl (cI, 4, .inl (Ol))), (as_, .inl (cI, 64, .inl (AS)))]) [9, 0, 1, 10, 2, 3, 4, 5, 6, 7, 8] rfl
        have hD := hD.sub (ws' := [(x, .inr (3, [.ref t, .ref z, .int (nI md), .ref rf, .ref rw, .ref pl, .ref hd, .ref ha, .ref lo, .ref ol, .ref as_])), (t, .inl (cI, 192, .inl (flT T))), (z, .inl (cI, 3, .inl (zI Z))), (rf, .inl (cI, 4, .inl (upd RF 0 (RF 0 + nI 1)))), (rw, .inl (cI, 4, .inl (R))), (pl, .inl (cI, 4, .inl (P))), (hd, .inl (cI, 4, .inl (Hd))), (ha, .inl (cI, 4, .inl (HA))), (lo, .inl (cI, 4, .inl (Lo))), (ol, .inl (cI, 4, .inl (Ol))), (as_, .inl (cI, 64, .inl (AS)))]) [9, 0, 1, 10, 2, 3, 4, 5, 6, 7, 8] (by decide) rfl
        exact pw_iret hx hb hr (rfl) hlocks dX3_take_53 hS hP hD (⟨rfl, rfl⟩)
set_option maxHeartbeats 4000000 in
set_option maxRecDepth 100000 in
theorem n_take_o (l : Launch) (D : va_G) (cI cP cR : ClassId) (x t z rf rw pl hd ha lo ol as_ md : Nat) (T : Nat → Nat → Int32) (Z : Nat → Nat) (RF R P Hd HA Lo Ol AS : Nat → Int32) (i : Nat) (hi : i < 3) (hz : Z i ≤ 60) (la way : Int32) (hw : (0 ≤ way ∧ way ≤ (if la = 0 then nI 4 else nI 1))) (hzz : Z i = 0) (he : ¬ way - way / nI 2 * nI 2 = 0) : pw_Mp l yX3_take wsX3_take ({ frames := 2, cells := 0, slots := 0, locals := 47 } : Room) D cI cP cR [.ref x, .int (nI i), .int (la), .int (way)] ([(x, .inr (3, [.ref t, .ref z, .int (nI md), .ref rf, .ref rw, .ref pl, .ref hd, .ref ha, .ref lo, .ref ol, .ref as_])), (t, .inl (cI, 192, .inl (flT T))), (z, .inl (cI, 3, .inl (zI Z))), (rf, .inl (cI, 4, .inl (RF))), (rw, .inl (cI, 4, .inl (R))), (pl, .inl (cI, 4, .inl (P))), (hd, .inl (cI, 4, .inl (Hd))), (ha, .inl (cI, 4, .inl (HA))), (lo, .inl (cI, 4, .inl (Lo))), (ol, .inl (cI, 4, .inl (Ol))), (as_, .inl (cI, 64, .inl (AS)))]) (.int (-6)) := by
  refine pw_ofp (cc := cX3_take) (maxL := 4) (ret := (some .int)) (own := RX3) (by decide +kernel) rfl rfl (Nat.le_of_ble_eq_true rfl) ?_
  intro p_ e_ s m bel meth cd hE hK hP hD ls hl
  obtain ⟨hx, hb, hr, hml, hown, hts, hlocks⟩ := hE
  have hNW := hK.2
  have hl : lv_has ls 4 [(0, .ref x), (1, .int (nI i)), (2, .int (la)), (3, .int (way))] := hl
  refine lv_iload_n hx hb dX3_take_0 rfl (lv_at hl 1 rfl) ?_
  -- m_isRow_t
  refine pw_cSp (As := [.int (nI i)]) (rest := []) ⟨hx, hb, hml, hown, hts⟩ (m_isRow_t l D cI cP cR i (by omega)) (va_cwS 1 hts gX3_take_X3_isRow rfl rfl rfl (by decide +kernel) ⟨Nat.le_of_ble_eq_true rfl, Nat.le_of_ble_eq_true rfl⟩) hK rfl hl.1 rfl (Nat.le_of_ble_eq_true rfl) dX3_take_1 ⟨Nat.zero_le _, Nat.zero_le _⟩ ?_
  refine lv_if_eq (tgt := 24) hx hb dX3_take_4 (by decide) (fun c => absurd c (by decide)) (fun c => ?_)
  refine lv_iload_n hx hb dX3_take_7 rfl (lv_at hl 3 rfl) ?_
  refine lv_iconst (v := nI 0) hx hb dX3_take_8 (by decide) ?_
  refine lv_iload_n hx hb dX3_take_9 rfl (lv_at hl 2 rfl) ?_
  refine lv_if_eq (tgt := 17) hx hb dX3_take_10 (by decide) (fun c_1 => ?_) (fun c_1 => ?_)
  · have _h := c_1
    refine lv_iconst (v := nI 4) hx hb dX3_take_17 (by decide) ?_
    -- m_in_t
    refine pw_cSp (As := [.int (way), .int (nI 0), .int (nI 4)]) (rest := []) ⟨hx, hb, hml, hown, hts⟩ (m_in_t l D cI cP cR way (nI 0) (nI 4) (⟨hw.1, by have h2 := hw.2; rw [if_pos c_1] at h2; exact h2⟩)) (va_cwS 3 hts gX3_take_X3_in rfl rfl rfl (by decide +kernel) ⟨Nat.le_of_ble_eq_true rfl, Nat.le_of_ble_eq_true rfl⟩) hK rfl hl.1 rfl (Nat.le_of_ble_eq_true rfl) dX3_take_18 ⟨Nat.zero_le _, Nat.zero_le _⟩ ?_
    refine lv_if_ne (tgt := 26) hx hb dX3_take_21 (by decide) (fun c => ?_) (fun c => absurd c (by decide))
    refine lv_aload_n hx hb dX3_take_26 rfl (lv_at hl 0 rfl) ?_
    refine va_get (D := D) (ci := 3) (v := .ref z) (C := RX3) (T := TX3) (N := 11) hx hb hts hi_X3_take_3 hown hK.1 hP 0 rfl rfl 1 (by decide) (hts _ hf_X3_take_13) (fun _ h9 => h9) rfl dX3_take_27 ?_
    refine lv_iload_n hx hb dX3_take_30 rfl (lv_at hl 1 rfl) ?_
    refine pw_iald hx hb hK.1 hP 2 0 rfl rfl (by decide) (by omega) dX3_take_31 ?_
    refine pw_top (y := nI (Z i)) rfl ?_
    refine pw_if_ne (tgt := 54) hx hb (by omega) dX3_take_32 (by decide) (fun c_2 => ?_) (fun c_2 => ?_)
    · exact absurd hzz c_2
    · have _h := c_2
      refine lv_iload_n hx hb dX3_take_35 rfl (lv_at hl 3 rfl) ?_
      refine lv_iconst (v := nI 2) hx hb dX3_take_36 (by decide) ?_
      refine lv_irem hx hb dX3_take_37 (by decide) ?_
      refine lv_if_ne (tgt := 51) hx hb dX3_take_38 (by decide) (fun c_3 => ?_) (fun c_3 => ?_)
      · have _h := c_3
        refine lv_bipush (v := -6) hx hb dX3_take_51 (by decide) ?_
        exact pw_piret hx hb hr (rfl) hlocks dX3_take_53 (rfl)
      · exact absurd c_3 he
  · have _h := c_1
    refine lv_iconst (v := nI 1) hx hb dX3_take_13 (by decide) ?_
    refine lv_goto (tgt := 18) hx hb dX3_take_14 (by decide) ?_
    -- m_in_t
    refine pw_cSp (As := [.int (way), .int (nI 0), .int (nI 1)]) (rest := []) ⟨hx, hb, hml, hown, hts⟩ (m_in_t l D cI cP cR way (nI 0) (nI 1) (⟨hw.1, by have h2 := hw.2; rw [if_neg c_1] at h2; exact h2⟩)) (va_cwS 3 hts gX3_take_X3_in rfl rfl rfl (by decide +kernel) ⟨Nat.le_of_ble_eq_true rfl, Nat.le_of_ble_eq_true rfl⟩) hK rfl hl.1 rfl (Nat.le_of_ble_eq_true rfl) dX3_take_18 ⟨Nat.zero_le _, Nat.zero_le _⟩ ?_
    refine lv_if_ne (tgt := 26) hx hb dX3_take_21 (by decide) (fun c => ?_) (fun c => absurd c (by decide))
    refine lv_aload_n hx hb dX3_take_26 rfl (lv_at hl 0 rfl) ?_
    refine va_get (D := D) (ci := 3) (v := .ref z) (C := RX3) (T := TX3) (N := 11) hx hb hts hi_X3_take_3 hown hK.1 hP 0 rfl rfl 1 (by decide) (hts _ hf_X3_take_13) (fun _ h9 => h9) rfl dX3_take_27 ?_
    refine lv_iload_n hx hb dX3_take_30 rfl (lv_at hl 1 rfl) ?_
    refine pw_iald hx hb hK.1 hP 2 0 rfl rfl (by decide) (by omega) dX3_take_31 ?_
    refine pw_top (y := nI (Z i)) rfl ?_
    refine pw_if_ne (tgt := 54) hx hb (by omega) dX3_take_32 (by decide) (fun c_4 => ?_) (fun c_4 => ?_)
    · exact absurd hzz c_4
    · have _h := c_4
      refine lv_iload_n hx hb dX3_take_35 rfl (lv_at hl 3 rfl) ?_
      refine lv_iconst (v := nI 2) hx hb dX3_take_36 (by decide) ?_
      refine lv_irem hx hb dX3_take_37 (by decide) ?_
      refine lv_if_ne (tgt := 51) hx hb dX3_take_38 (by decide) (fun c_5 => ?_) (fun c_5 => ?_)
      · have _h := c_5
        refine lv_bipush (v := -6) hx hb dX3_take_51 (by decide) ?_
        exact pw_piret hx hb hr (rfl) hlocks dX3_take_53 (rfl)
      · exact absurd c_5 he
set_option maxHeartbeats 4000000 in
set_option maxRecDepth 100000 in
theorem n_take (l : Launch) (D : va_G) (cI cP cR : ClassId) (x t z rf rw pl hd ha lo ol as_ md : Nat) (T : Nat → Nat → Int32) (Z : Nat → Nat) (RF R P Hd HA Lo Ol AS : Nat → Int32) (i : Nat) (hi : i < 3) (hz : Z i ≤ 60) (la way : Int32) (hw : (0 ≤ way ∧ way ≤ (if la = 0 then nI 4 else nI 1))) (hzz : ¬ Z i = 0) : pw_Mm l yX3_take wsX3_take ({ frames := 2, cells := 0, slots := 0, locals := 47 } : Room) D cI cP cR [.ref x, .int (nI i), .int (la), .int (way)] ([(x, .inr (3, [.ref t, .ref z, .int (nI md), .ref rf, .ref rw, .ref pl, .ref hd, .ref ha, .ref lo, .ref ol, .ref as_])), (t, .inl (cI, 192, .inl (flT T))), (z, .inl (cI, 3, .inl (zI Z))), (rf, .inl (cI, 4, .inl (RF))), (rw, .inl (cI, 4, .inl (R))), (pl, .inl (cI, 4, .inl (P))), (hd, .inl (cI, 4, .inl (Hd))), (ha, .inl (cI, 4, .inl (HA))), (lo, .inl (cI, 4, .inl (Lo))), (ol, .inl (cI, 4, .inl (Ol))), (as_, .inl (cI, 64, .inl (AS)))]) (fun v w => v = some (.int (T i (plF la (Z i - 1)))) ∧ w = [(x, .inr (3, [.ref t, .ref z, .int (nI md), .ref rf, .ref rw, .ref pl, .ref hd, .ref ha, .ref lo, .ref ol, .ref as_])), (t, .inl (cI, 192, .inl (flT (upR T i (clsF (T i) (plF la (Z i - 1)) (Z i)))))), (z, .inl (cI, 3, .inl (zI (updN Z i (Z i - 1))))), (rf, .inl (cI, 4, .inl (RF))), (rw, .inl (cI, 4, .inl (R))), (pl, .inl (cI, 4, .inl (P))), (hd, .inl (cI, 4, .inl (Hd))), (ha, .inl (cI, 4, .inl (HA))), (lo, .inl (cI, 4, .inl (Lo))), (ol, .inl (cI, 4, .inl (agF R Ol (nI i) (-1)))), (as_, .inl (cI, 64, .inl (AS)))]) := by
  refine pw_ofm (cc := cX3_take) (maxL := 4) (ret := (some .int)) (own := RX3) (by decide +kernel) rfl rfl (Nat.le_of_ble_eq_true rfl) ?_
  intro p_ e_ s m bel meth cd A hE hK hP hD hA hS ls hl
  obtain ⟨hx, hb, hr, hml, hown, hts, hlocks⟩ := hE
  have hNW := hK.2
  have hl : lv_has ls 4 [(0, .ref x), (1, .int (nI i)), (2, .int (la)), (3, .int (way))] := hl
  refine lv_iload_n hx hb dX3_take_0 rfl (lv_at hl 1 rfl) ?_
  -- m_isRow_t
  refine pw_cSp (As := [.int (nI i)]) (rest := []) ⟨hx, hb, hml, hown, hts⟩ (m_isRow_t l D cI cP cR i (by omega)) (va_cwS 1 hts gX3_take_X3_isRow rfl rfl rfl (by decide +kernel) ⟨Nat.le_of_ble_eq_true rfl, Nat.le_of_ble_eq_true rfl⟩) hK rfl hl.1 rfl (Nat.le_of_ble_eq_true rfl) dX3_take_1 ⟨Nat.zero_le _, Nat.zero_le _⟩ ?_
  refine lv_if_eq (tgt := 24) hx hb dX3_take_4 (by decide) (fun c => absurd c (by decide)) (fun c => ?_)
  refine lv_iload_n hx hb dX3_take_7 rfl (lv_at hl 3 rfl) ?_
  refine lv_iconst (v := nI 0) hx hb dX3_take_8 (by decide) ?_
  refine lv_iload_n hx hb dX3_take_9 rfl (lv_at hl 2 rfl) ?_
  refine lv_if_eq (tgt := 17) hx hb dX3_take_10 (by decide) (fun c_1 => ?_) (fun c_1 => ?_)
  · have _h := c_1
    refine lv_iconst (v := nI 4) hx hb dX3_take_17 (by decide) ?_
    -- m_in_t
    refine pw_cSp (As := [.int (way), .int (nI 0), .int (nI 4)]) (rest := []) ⟨hx, hb, hml, hown, hts⟩ (m_in_t l D cI cP cR way (nI 0) (nI 4) (⟨hw.1, by have h2 := hw.2; rw [if_pos c_1] at h2; exact h2⟩)) (va_cwS 3 hts gX3_take_X3_in rfl rfl rfl (by decide +kernel) ⟨Nat.le_of_ble_eq_true rfl, Nat.le_of_ble_eq_true rfl⟩) hK rfl hl.1 rfl (Nat.le_of_ble_eq_true rfl) dX3_take_18 ⟨Nat.zero_le _, Nat.zero_le _⟩ ?_
    refine lv_if_ne (tgt := 26) hx hb dX3_take_21 (by decide) (fun c => ?_) (fun c => absurd c (by decide))
    refine lv_aload_n hx hb dX3_take_26 rfl (lv_at hl 0 rfl) ?_
    refine va_get (D := D) (ci := 3) (v := .ref z) (C := RX3) (T := TX3) (N := 11) hx hb hts hi_X3_take_3 hown hK.1 hP 0 rfl rfl 1 (by decide) (hts _ hf_X3_take_13) (fun _ h9 => h9) rfl dX3_take_27 ?_
    refine lv_iload_n hx hb dX3_take_30 rfl (lv_at hl 1 rfl) ?_
    refine pw_iald hx hb hK.1 hP 2 0 rfl rfl (by decide) (by omega) dX3_take_31 ?_
    refine pw_top (y := nI (Z i)) rfl ?_
    refine pw_if_ne (tgt := 54) hx hb (by omega) dX3_take_32 (by decide) (fun c_2 => ?_) (fun c_2 => ?_)
    · have _h := c_2
      refine lv_aload_n hx hb dX3_take_54 rfl (lv_at hl 0 rfl) ?_
      refine lv_iload_n hx hb dX3_take_55 rfl (lv_at hl 1 rfl) ?_
      refine lv_iconst (v := -1) hx hb dX3_take_56 (by decide) ?_
      -- m_age
      refine pw_cVm (As := [.int (nI i), .int (-1)]) (rest := []) (wc := [(x, .inr (3, [.ref t, .ref z, .int (nI md), .ref rf, .ref rw, .ref pl, .ref hd, .ref ha, .ref lo, .ref ol, .ref as_])), (rw, .inl (cI, 4, .inl (R))), (ol, .inl (cI, 4, .inl (Ol)))]) (wr := [(t, .inl (cI, 192, .inl (flT T))), (z, .inl (cI, 3, .inl (zI Z))), (rf, .inl (cI, 4, .inl (RF))), (pl, .inl (cI, 4, .inl (P))), (hd, .inl (cI, 4, .inl (Hd))), (ha, .inl (cI, 4, .inl (HA))), (lo, .inl (cI, 4, .inl (Lo))), (as_, .inl (cI, 64, .inl (AS)))]) ⟨hx, hb, hml, hown, hts⟩ (m_age l D cI cP cR x t z rf rw pl hd ha lo ol as_ md R Ol i (-1)) (cwV 2 hts gX3_take_X3_age rfl rfl rfl (by decide +kernel) ⟨Nat.le_of_ble_eq_true rfl, Nat.le_of_ble_eq_true rfl⟩) hK hP hD hS hA [0, 4, 9] [1, 2, 3, 5, 6, 7, 8, 10] rfl rfl (by decide) (by decide) (by decide) 0 rfl rfl rfl rfl hl.1 rfl (Nat.le_of_ble_eq_true rfl) dX3_take_57 ⟨Nat.zero_le _, Nat.zero_le _⟩ (fun v1 w1 H locs hq hP hD hS => ?_)
      rcases hq with ⟨rfl, rfl⟩
      have hP : va_P D vwCl ([(t, .inl (cI, 192, .inl (flT T))), (z, .inl (cI, 3, .inl (zI Z))), (rf, .inl (cI, 4, .inl (RF))), (pl, .inl (cI, 4, .inl (P))), (hd, .inl (cI, 4, .inl (Hd))), (ha, .inl (cI, 4, .inl (HA))), (lo, .inl (cI, 4, .inl (Lo))), (as_, .inl (cI, 64, .inl (AS))), (x, .inr (3, [.ref t, .ref z, .int (nI md), .ref rf, .ref rw, .ref pl, .ref hd, .ref ha, .ref lo, .ref ol, .ref as_])), (rw, .inl (cI, 4, .inl (R))), (ol, .inl (cI, 4, .inl (agF R Ol (nI i) (-1))))]) H := hP
      have hD : va_D A ([(t, .inl (cI, 192, .inl (flT T))), (z, .inl (cI, 3, .inl (zI Z))), (rf, .inl (cI, 4, .inl (RF))), (pl, .inl (cI, 4, .inl (P))), (hd, .inl (cI, 4, .inl (Hd))), (ha, .inl (cI, 4, .inl (HA))), (lo, .inl (cI, 4, .inl (Lo))), (as_, .inl (cI, 64, .inl (AS))), (x, .inr (3, [.ref t, .ref z, .int (nI md), .ref rf, .ref rw, .ref pl, .ref hd, .ref ha, .ref lo, .ref ol, .ref as_])), (rw, .inl (cI, 4, .inl (R))), (ol, .inl (cI, 4, .inl (agF R Ol (nI i) (-1))))]) := hD
      refine W.eq (g2 := F0 m 60 ls []) rfl ?_
      refine lv_aload_n hx hb dX3_take_60 rfl (lv_at hl 0 rfl) ?_
      refine lv_iload_n hx hb dX3_take_61 rfl (lv_at hl 1 rfl) ?_
      refine lv_iload_n hx hb dX3_take_62 rfl (lv_at hl 2 rfl) ?_
      refine lv_if_eq (tgt := 77) hx hb dX3_take_63 (by decide) (fun c_3 => ?_) (fun c_3 => ?_)
      · have _h := c_3
        refine lv_iconst (v := nI 0) hx hb dX3_take_77 (by decide) ?_
        -- m_close
        refine pw_cVm (As := [.int (nI i), .int (nI 0)]) (rest := []) (wc := [(x, .inr (3, [.ref t, .ref z, .int (nI md), .ref rf, .ref rw, .ref pl, .ref hd, .ref ha, .ref lo, .ref ol, .ref as_])), (t, .inl (cI, 192, .inl (flT T))), (z, .inl (cI, 3, .inl (zI Z)))]) (wr := [(rf, .inl (cI, 4, .inl (RF))), (pl, .inl (cI, 4, .inl (P))), (hd, .inl (cI, 4, .inl (Hd))), (ha, .inl (cI, 4, .inl (HA))), (lo, .inl (cI, 4, .inl (Lo))), (as_, .inl (cI, 64, .inl (AS))), (rw, .inl (cI, 4, .inl (R))), (ol, .inl (cI, 4, .inl (agF R Ol (nI i) (-1))))]) ⟨hx, hb, hml, hown, hts⟩ (m_close l D cI cP cR x t z rf rw pl hd ha lo ol as_ md T Z i 0 (by omega) (by omega) (by omega)) (cwV 2 hts gX3_take_X3_close rfl rfl rfl (by decide +kernel) ⟨Nat.le_of_ble_eq_true rfl, Nat.le_of_ble_eq_true rfl⟩) hK hP hD hS hA [8, 0, 1] [2, 3, 4, 5, 6, 7, 9, 10] rfl rfl (by decide) (by decide) (by decide) 0 rfl rfl rfl rfl hl.1 rfl (Nat.le_of_ble_eq_true rfl) dX3_take_78 ⟨Nat.zero_le _, Nat.zero_le _⟩ (fun v1 w1 H locs hq hP hD hS => ?_)
        rcases hq with ⟨rfl, rfl⟩
        have hP : va_P D vwCl ([(rf, .inl (cI, 4, .inl (RF))), (pl, .inl (cI, 4, .inl (P))), (hd, .inl (cI, 4, .inl (Hd))), (ha, .inl (cI, 4, .inl (HA))), (lo, .inl (cI, 4, .inl (Lo))), (as_, .inl (cI, 64, .inl (AS))), (rw, .inl (cI, 4, .inl (R))), (ol, .inl (cI, 4, .inl (agF R Ol (nI i) (-1)))), (x, .inr (3, [.ref t, .ref z, .int (nI md), .ref rf, .ref rw, .ref pl, .ref hd, .ref ha, .ref lo, .ref ol, .ref as_])), (t, .inl (cI, 192, .inl (flT (upR T i (clsF (T i) 0 (Z i)))))), (z, .inl (cI, 3, .inl (zI (updN Z i (Z i - 1)))))]) H := hP
        have hD : va_D A ([(rf, .inl (cI, 4, .inl (RF))), (pl, .inl (cI, 4, .inl (P))), (hd, .inl (cI, 4, .inl (Hd))), (ha, .inl (cI, 4, .inl (HA))), (lo, .inl (cI, 4, .inl (Lo))), (as_, .inl (cI, 64, .inl (AS))), (rw, .inl (cI, 4, .inl (R))), (ol, .inl (cI, 4, .inl (agF R Ol (nI i) (-1)))), (x, .inr (3, [.ref t, .ref z, .int (nI md), .ref rf, .ref rw, .ref pl, .ref hd, .ref ha, .ref lo, .ref ol, .ref as_])), (t, .inl (cI, 192, .inl (flT (upR T i (clsF (T i) 0 (Z i)))))), (z, .inl (cI, 3, .inl (zI (updN Z i (Z i - 1)))))]) := hD
        refine W.eq (g2 := F0 m 81 ls [.int (T i 0)]) rfl ?_
        have hP := hP.sub (ws' := [(x, .inr (3, [.ref t, .ref z, .int (nI md), .ref rf, .ref rw, .ref pl, .ref hd, .ref ha, .ref lo, .ref ol, .ref as_])), (t, .inl (cI, 192, .inl (flT (upR T i (clsF (T i) 0 (Z i)))))), (z, .inl (cI, 3, .inl (zI (updN Z i (Z i - 1))))), (rf, .inl (cI, 4, .inl (RF))), (rw, .inl (cI, 4, .inl (R))), (pl, .inl (cI, 4, .inl (P))), (hd, .inl (cI, 4, .inl (Hd))), (ha, .inl (cI, 4, .inl (HA))), (lo, .inl (cI, 4, .inl (Lo))), (ol, .inl (cI, 4, .inl (agF R Ol (nI i) (-1)))), (as_, .inl (cI, 64, .inl (AS)))]) [8, 9, 10, 0, 6, 1, 2, 3, 4, 7, 5] rfl
        have hD := hD.sub (ws' := [(x, .inr (3, [.ref t, .ref z, .int (nI md), .ref rf, .ref rw, .ref pl, .ref hd, .ref ha, .ref lo, .ref ol, .ref as_])), (t, .inl (cI, 192, .inl (flT (upR T i (clsF (T i) 0 (Z i)))))), (z, .inl (cI, 3, .inl (zI (updN Z i (Z i - 1))))), (rf, .inl (cI, 4, .inl (RF))), (rw, .inl (cI, 4, .inl (R))), (pl, .inl (cI, 4, .inl (P))), (hd, .inl (cI, 4, .inl (Hd))), (ha, .inl (cI, 4, .inl (HA))), (lo, .inl (cI, 4, .inl (Lo))), (ol, .inl (cI, 4, .inl (agF R Ol (nI i) (-1)))), (as_, .inl (cI, 64, .inl (AS)))]) [8, 9, 10, 0, 6, 1, 2, 3, 4, 7, 5] (by decide) rfl
        exact pw_iret hx hb hr (rfl) hlocks dX3_take_81 hS hP hD (by unfold plF; rw [if_pos c_3]; exact ⟨rfl, rfl⟩)
      · have _h := c_3
        refine lv_aload_n hx hb dX3_take_66 rfl (lv_at hl 0 rfl) ?_
        refine va_get (D := D) (ci := 3) (v := .ref z) (C := RX3) (T := TX3) (N := 11) hx hb hts hi_X3_take_3 hown hK.1 hP 8 rfl rfl 1 (by decide) (hts _ hf_X3_take_13) (fun _ h9 => h9) rfl dX3_take_67 ?_
        refine lv_iload_n hx hb dX3_take_70 rfl (lv_at hl 1 rfl) ?_
        refine pw_iald hx hb hK.1 hP 1 0 rfl rfl (by decide) (by omega) dX3_take_71 ?_
        refine pw_top (y := nI (Z i)) rfl ?_
        refine lv_iconst (v := nI 1) hx hb dX3_take_72 (by decide) ?_
        refine pw_isub hx hb (by omega) dX3_take_73 ?_
        refine lv_goto (tgt := 78) hx hb dX3_take_74 (by decide) ?_
        -- m_close
        refine pw_cVm (As := [.int (nI i), .int (nI ((Z i) - 1))]) (rest := []) (wc := [(x, .inr (3, [.ref t, .ref z, .int (nI md), .ref rf, .ref rw, .ref pl, .ref hd, .ref ha, .ref lo, .ref ol, .ref as_])), (t, .inl (cI, 192, .inl (flT T))), (z, .inl (cI, 3, .inl (zI Z)))]) (wr := [(rf, .inl (cI, 4, .inl (RF))), (pl, .inl (cI, 4, .inl (P))), (hd, .inl (cI, 4, .inl (Hd))), (ha, .inl (cI, 4, .inl (HA))), (lo, .inl (cI, 4, .inl (Lo))), (as_, .inl (cI, 64, .inl (AS))), (rw, .inl (cI, 4, .inl (R))), (ol, .inl (cI, 4, .inl (agF R Ol (nI i) (-1))))]) ⟨hx, hb, hml, hown, hts⟩ (m_close l D cI cP cR x t z rf rw pl hd ha lo ol as_ md T Z i ((Z i) - 1) (by omega) (by omega) (by omega)) (cwV 2 hts gX3_take_X3_close rfl rfl rfl (by decide +kernel) ⟨Nat.le_of_ble_eq_true rfl, Nat.le_of_ble_eq_true rfl⟩) hK hP hD hS hA [8, 0, 1] [2, 3, 4, 5, 6, 7, 9, 10] rfl rfl (by decide) (by decide) (by decide) 0 rfl rfl rfl rfl hl.1 rfl (Nat.le_of_ble_eq_true rfl) dX3_take_78 ⟨Nat.zero_le _, Nat.zero_le _⟩ (fun v1 w1 H locs hq hP hD hS => ?_)
        rcases hq with ⟨rfl, rfl⟩
        have hP : va_P D vwCl ([(rf, .inl (cI, 4, .inl (RF))), (pl, .inl (cI, 4, .inl (P))), (hd, .inl (cI, 4, .inl (Hd))), (ha, .inl (cI, 4, .inl (HA))), (lo, .inl (cI, 4, .inl (Lo))), (as_, .inl (cI, 64, .inl (AS))), (rw, .inl (cI, 4, .inl (R))), (ol, .inl (cI, 4, .inl (agF R Ol (nI i) (-1)))), (x, .inr (3, [.ref t, .ref z, .int (nI md), .ref rf, .ref rw, .ref pl, .ref hd, .ref ha, .ref lo, .ref ol, .ref as_])), (t, .inl (cI, 192, .inl (flT (upR T i (clsF (T i) ((Z i) - 1) (Z i)))))), (z, .inl (cI, 3, .inl (zI (updN Z i (Z i - 1)))))]) H := hP
        have hD : va_D A ([(rf, .inl (cI, 4, .inl (RF))), (pl, .inl (cI, 4, .inl (P))), (hd, .inl (cI, 4, .inl (Hd))), (ha, .inl (cI, 4, .inl (HA))), (lo, .inl (cI, 4, .inl (Lo))), (as_, .inl (cI, 64, .inl (AS))), (rw, .inl (cI, 4, .inl (R))), (ol, .inl (cI, 4, .inl (agF R Ol (nI i) (-1)))), (x, .inr (3, [.ref t, .ref z, .int (nI md), .ref rf, .ref rw, .ref pl, .ref hd, .ref ha, .ref lo, .ref ol, .ref as_])), (t, .inl (cI, 192, .inl (flT (upR T i (clsF (T i) ((Z i) - 1) (Z i)))))), (z, .inl (cI, 3, .inl (zI (updN Z i (Z i - 1)))))]) := hD
        refine W.eq (g2 := F0 m 81 ls [.int (T i ((Z i) - 1))]) rfl ?_
        have hP := hP.sub (ws' := [(x, .inr (3, [.ref t, .ref z, .int (nI md), .ref rf, .ref rw, .ref pl, .ref hd, .ref ha, .ref lo, .ref ol, .ref as_])), (t, .inl (cI, 192, .inl (flT (upR T i (clsF (T i) ((Z i) - 1) (Z i)))))), (z, .inl (cI, 3, .inl (zI (updN Z i (Z i - 1))))), (rf, .inl (cI, 4, .inl (RF))), (rw, .inl (cI, 4, .inl (R))), (pl, .inl (cI, 4, .inl (P))), (hd, .inl (cI, 4, .inl (Hd))), (ha, .inl (cI, 4, .inl (HA))), (lo, .inl (cI, 4, .inl (Lo))), (ol, .inl (cI, 4, .inl (agF R Ol (nI i) (-1)))), (as_, .inl (cI, 64, .inl (AS)))]) [8, 9, 10, 0, 6, 1, 2, 3, 4, 7, 5] rfl
        have hD := hD.sub (ws' := [(x, .inr (3, [.ref t, .ref z, .int (nI md), .ref rf, .ref rw, .ref pl, .ref hd, .ref ha, .ref lo, .ref ol, .ref as_])), (t, .inl (cI, 192, .inl (flT (upR T i (clsF (T i) ((Z i) - 1) (Z i)))))), (z, .inl (cI, 3, .inl (zI (updN Z i (Z i - 1))))), (rf, .inl (cI, 4, .inl (RF))), (rw, .inl (cI, 4, .inl (R))), (pl, .inl (cI, 4, .inl (P))), (hd, .inl (cI, 4, .inl (Hd))), (ha, .inl (cI, 4, .inl (HA))), (lo, .inl (cI, 4, .inl (Lo))), (ol, .inl (cI, 4, .inl (agF R Ol (nI i) (-1)))), (as_, .inl (cI, 64, .inl (AS)))]) [8, 9, 10, 0, 6, 1, 2, 3, 4, 7, 5] (by decide) rfl
        exact pw_iret hx hb hr (rfl) hlocks dX3_take_81 hS hP hD (by unfold plF; rw [if_neg c_3]; exact ⟨rfl, rfl⟩)
    · exact absurd c_2 hzz
  · have _h := c_1
    refine lv_iconst (v := nI 1) hx hb dX3_take_13 (by decide) ?_
    refine lv_goto (tgt := 18) hx hb dX3_take_14 (by decide) ?_
    -- m_in_t
    refine pw_cSp (As := [.int (way), .int (nI 0), .int (nI 1)]) (rest := []) ⟨hx, hb, hml, hown, hts⟩ (m_in_t l D cI cP cR way (nI 0) (nI 1) (⟨hw.1, by have h2 := hw.2; rw [if_neg c_1] at h2; exact h2⟩)) (va_cwS 3 hts gX3_take_X3_in rfl rfl rfl (by decide +kernel) ⟨Nat.le_of_ble_eq_true rfl, Nat.le_of_ble_eq_true rfl⟩) hK rfl hl.1 rfl (Nat.le_of_ble_eq_true rfl) dX3_take_18 ⟨Nat.zero_le _, Nat.zero_le _⟩ ?_
    refine lv_if_ne (tgt := 26) hx hb dX3_take_21 (by decide) (fun c => ?_) (fun c => absurd c (by decide))
    refine lv_aload_n hx hb dX3_take_26 rfl (lv_at hl 0 rfl) ?_
    refine va_get (D := D) (ci := 3) (v := .ref z) (C := RX3) (T := TX3) (N := 11) hx hb hts hi_X3_take_3 hown hK.1 hP 0 rfl rfl 1 (by decide) (hts _ hf_X3_take_13) (fun _ h9 => h9) rfl dX3_take_27 ?_
    refine lv_iload_n hx hb dX3_take_30 rfl (lv_at hl 1 rfl) ?_
    refine pw_iald hx hb hK.1 hP 2 0 rfl rfl (by decide) (by omega) dX3_take_31 ?_
    refine pw_top (y := nI (Z i)) rfl ?_
    refine pw_if_ne (tgt := 54) hx hb (by omega) dX3_take_32 (by decide) (fun c_4 => ?_) (fun c_4 => ?_)
    · have _h := c_4
      refine lv_aload_n hx hb dX3_take_54 rfl (lv_at hl 0 rfl) ?_
      refine lv_iload_n hx hb dX3_take_55 rfl (lv_at hl 1 rfl) ?_
      refine lv_iconst (v := -1) hx hb dX3_take_56 (by decide) ?_
      -- m_age
      refine pw_cVm (As := [.int (nI i), .int (-1)]) (rest := []) (wc := [(x, .inr (3, [.ref t, .ref z, .int (nI md), .ref rf, .ref rw, .ref pl, .ref hd, .ref ha, .ref lo, .ref ol, .ref as_])), (rw, .inl (cI, 4, .inl (R))), (ol, .inl (cI, 4, .inl (Ol)))]) (wr := [(t, .inl (cI, 192, .inl (flT T))), (z, .inl (cI, 3, .inl (zI Z))), (rf, .inl (cI, 4, .inl (RF))), (pl, .inl (cI, 4, .inl (P))), (hd, .inl (cI, 4, .inl (Hd))), (ha, .inl (cI, 4, .inl (HA))), (lo, .inl (cI, 4, .inl (Lo))), (as_, .inl (cI, 64, .inl (AS)))]) ⟨hx, hb, hml, hown, hts⟩ (m_age l D cI cP cR x t z rf rw pl hd ha lo ol as_ md R Ol i (-1)) (cwV 2 hts gX3_take_X3_age rfl rfl rfl (by decide +kernel) ⟨Nat.le_of_ble_eq_true rfl, Nat.le_of_ble_eq_true rfl⟩) hK hP hD hS hA [0, 4, 9] [1, 2, 3, 5, 6, 7, 8, 10] rfl rfl (by decide) (by decide) (by decide) 0 rfl rfl rfl rfl hl.1 rfl (Nat.le_of_ble_eq_true rfl) dX3_take_57 ⟨Nat.zero_le _, Nat.zero_le _⟩ (fun v1 w1 H locs hq hP hD hS => ?_)
      rcases hq with ⟨rfl, rfl⟩
      have hP : va_P D vwCl ([(t, .inl (cI, 192, .inl (flT T))), (z, .inl (cI, 3, .inl (zI Z))), (rf, .inl (cI, 4, .inl (RF))), (pl, .inl (cI, 4, .inl (P))), (hd, .inl (cI, 4, .inl (Hd))), (ha, .inl (cI, 4, .inl (HA))), (lo, .inl (cI, 4, .inl (Lo))), (as_, .inl (cI, 64, .inl (AS))), (x, .inr (3, [.ref t, .ref z, .int (nI md), .ref rf, .ref rw, .ref pl, .ref hd, .ref ha, .ref lo, .ref ol, .ref as_])), (rw, .inl (cI, 4, .inl (R))), (ol, .inl (cI, 4, .inl (agF R Ol (nI i) (-1))))]) H := hP
      have hD : va_D A ([(t, .inl (cI, 192, .inl (flT T))), (z, .inl (cI, 3, .inl (zI Z))), (rf, .inl (cI, 4, .inl (RF))), (pl, .inl (cI, 4, .inl (P))), (hd, .inl (cI, 4, .inl (Hd))), (ha, .inl (cI, 4, .inl (HA))), (lo, .inl (cI, 4, .inl (Lo))), (as_, .inl (cI, 64, .inl (AS))), (x, .inr (3, [.ref t, .ref z, .int (nI md), .ref rf, .ref rw, .ref pl, .ref hd, .ref ha, .ref lo, .ref ol, .ref as_])), (rw, .inl (cI, 4, .inl (R))), (ol, .inl (cI, 4, .inl (agF R Ol (nI i) (-1))))]) := hD
      refine W.eq (g2 := F0 m 60 ls []) rfl ?_
      refine lv_aload_n hx hb dX3_take_60 rfl (lv_at hl 0 rfl) ?_
      refine lv_iload_n hx hb dX3_take_61 rfl (lv_at hl 1 rfl) ?_
      refine lv_iload_n hx hb dX3_take_62 rfl (lv_at hl 2 rfl) ?_
      refine lv_if_eq (tgt := 77) hx hb dX3_take_63 (by decide) (fun c_5 => ?_) (fun c_5 => ?_)
      · have _h := c_5
        refine lv_iconst (v := nI 0) hx hb dX3_take_77 (by decide) ?_
        -- m_close
        refine pw_cVm (As := [.int (nI i), .int (nI 0)]) (rest := []) (wc := [(x, .inr (3, [.ref t, .ref z, .int (nI md), .ref rf, .ref rw, .ref pl, .ref hd, .ref ha, .ref lo, .ref ol, .ref as_])), (t, .inl (cI, 192, .inl (flT T))), (z, .inl (cI, 3, .inl (zI Z)))]) (wr := [(rf, .inl (cI, 4, .inl (RF))), (pl, .inl (cI, 4, .inl (P))), (hd, .inl (cI, 4, .inl (Hd))), (ha, .inl (cI, 4, .inl (HA))), (lo, .inl (cI, 4, .inl (Lo))), (as_, .inl (cI, 64, .inl (AS))), (rw, .inl (cI, 4, .inl (R))), (ol, .inl (cI, 4, .inl (agF R Ol (nI i) (-1))))]) ⟨hx, hb, hml, hown, hts⟩ (m_close l D cI cP cR x t z rf rw pl hd ha lo ol as_ md T Z i 0 (by omega) (by omega) (by omega)) (cwV 2 hts gX3_take_X3_close rfl rfl rfl (by decide +kernel) ⟨Nat.le_of_ble_eq_true rfl, Nat.le_of_ble_eq_true rfl⟩) hK hP hD hS hA [8, 0, 1] [2, 3, 4, 5, 6, 7, 9, 10] rfl rfl (by decide) (by decide) (by decide) 0 rfl rfl rfl rfl hl.1 rfl (Nat.le_of_ble_eq_true rfl) dX3_take_78 ⟨Nat.zero_le _, Nat.zero_le _⟩ (fun v1 w1 H locs hq hP hD hS => ?_)
        rcases hq with ⟨rfl, rfl⟩
        have hP : va_P D vwCl ([(rf, .inl (cI, 4, .inl (RF))), (pl, .inl (cI, 4, .inl (P))), (hd, .inl (cI, 4, .inl (Hd))), (ha, .inl (cI, 4, .inl (HA))), (lo, .inl (cI, 4, .inl (Lo))), (as_, .inl (cI, 64, .inl (AS))), (rw, .inl (cI, 4, .inl (R))), (ol, .inl (cI, 4, .inl (agF R Ol (nI i) (-1)))), (x, .inr (3, [.ref t, .ref z, .int (nI md), .ref rf, .ref rw, .ref pl, .ref hd, .ref ha, .ref lo, .ref ol, .ref as_])), (t, .inl (cI, 192, .inl (flT (upR T i (clsF (T i) 0 (Z i)))))), (z, .inl (cI, 3, .inl (zI (updN Z i (Z i - 1)))))]) H := hP
        have hD : va_D A ([(rf, .inl (cI, 4, .inl (RF))), (pl, .inl (cI, 4, .inl (P))), (hd, .inl (cI, 4, .inl (Hd))), (ha, .inl (cI, 4, .inl (HA))), (lo, .inl (cI, 4, .inl (Lo))), (as_, .inl (cI, 64, .inl (AS))), (rw, .inl (cI, 4, .inl (R))), (ol, .inl (cI, 4, .inl (agF R Ol (nI i) (-1)))), (x, .inr (3, [.ref t, .ref z, .int (nI md), .ref rf, .ref rw, .ref pl, .ref hd, .ref ha, .ref lo, .ref ol, .ref as_])), (t, .inl (cI, 192, .inl (flT (upR T i (clsF (T i) 0 (Z i)))))), (z, .inl (cI, 3, .inl (zI (updN Z i (Z i - 1)))))]) := hD
        refine W.eq (g2 := F0 m 81 ls [.int (T i 0)]) rfl ?_
        have hP := hP.sub (ws' := [(x, .inr (3, [.ref t, .ref z, .int (nI md), .ref rf, .ref rw, .ref pl, .ref hd, .ref ha, .ref lo, .ref ol, .ref as_])), (t, .inl (cI, 192, .inl (flT (upR T i (clsF (T i) 0 (Z i)))))), (z, .inl (cI, 3, .inl (zI (updN Z i (Z i - 1))))), (rf, .inl (cI, 4, .inl (RF))), (rw, .inl (cI, 4, .inl (R))), (pl, .inl (cI, 4, .inl (P))), (hd, .inl (cI, 4, .inl (Hd))), (ha, .inl (cI, 4, .inl (HA))), (lo, .inl (cI, 4, .inl (Lo))), (ol, .inl (cI, 4, .inl (agF R Ol (nI i) (-1)))), (as_, .inl (cI, 64, .inl (AS)))]) [8, 9, 10, 0, 6, 1, 2, 3, 4, 7, 5] rfl
        have hD := hD.sub (ws' := [(x, .inr (3, [.ref t, .ref z, .int (nI md), .ref rf, .ref rw, .ref pl, .ref hd, .ref ha, .ref lo, .ref ol, .ref as_])), (t, .inl (cI, 192, .inl (flT (upR T i (clsF (T i) 0 (Z i)))))), (z, .inl (cI, 3, .inl (zI (updN Z i (Z i - 1))))), (rf, .inl (cI, 4, .inl (RF))), (rw, .inl (cI, 4, .inl (R))), (pl, .inl (cI, 4, .inl (P))), (hd, .inl (cI, 4, .inl (Hd))), (ha, .inl (cI, 4, .inl (HA))), (lo, .inl (cI, 4, .inl (Lo))), (ol, .inl (cI, 4, .inl (agF R Ol (nI i) (-1)))), (as_, .inl (cI, 64, .inl (AS)))]) [8, 9, 10, 0, 6, 1, 2, 3, 4, 7, 5] (by decide) rfl
        exact pw_iret hx hb hr (rfl) hlocks dX3_take_81 hS hP hD (by unfold plF; rw [if_pos c_5]; exact ⟨rfl, rfl⟩)
      · have _h := c_5
        refine lv_aload_n hx hb dX3_take_66 rfl (lv_at hl 0 rfl) ?_
        refine va_get (D := D) (ci := 3) (v := .ref z) (C := RX3) (T := TX3) (N := 11) hx hb hts hi_X3_take_3 hown hK.1 hP 8 rfl rfl 1 (by decide) (hts _ hf_X3_take_13) (fun _ h9 => h9) rfl dX3_take_67 ?_
        refine lv_iload_n hx hb dX3_take_70 rfl (lv_at hl 1 rfl) ?_
        refine pw_iald hx hb hK.1 hP 1 0 rfl rfl (by decide) (by omega) dX3_take_71 ?_
        refine pw_top (y := nI (Z i)) rfl ?_
        refine lv_iconst (v := nI 1) hx hb dX3_take_72 (by decide) ?_
        refine pw_isub hx hb (by omega) dX3_take_73 ?_
        refine lv_goto (tgt := 78) hx hb dX3_take_74 (by decide) ?_
        -- m_close
        refine pw_cVm (As := [.int (nI i), .int (nI ((Z i) - 1))]) (rest := []) (wc := [(x, .inr (3, [.ref t, .ref z, .int (nI md), .ref rf, .ref rw, .ref pl, .ref hd, .ref ha, .ref lo, .ref ol, .ref as_])), (t, .inl (cI, 192, .inl (flT T))), (z, .inl (cI, 3, .inl (zI Z)))]) (wr := [(rf, .inl (cI, 4, .inl (RF))), (pl, .inl (cI, 4, .inl (P))), (hd, .inl (cI, 4, .inl (Hd))), (ha, .inl (cI, 4, .inl (HA))), (lo, .inl (cI, 4, .inl (Lo))), (as_, .inl (cI, 64, .inl (AS))), (rw, .inl (cI, 4, .inl (R))), (ol, .inl (cI, 4, .inl (agF R Ol (nI i) (-1))))]) ⟨hx, hb, hml, hown, hts⟩ (m_close l D cI cP cR x t z rf rw pl hd ha lo ol as_ md T Z i ((Z i) - 1) (by omega) (by omega) (by omega)) (cwV 2 hts gX3_take_X3_close rfl rfl rfl (by decide +kernel) ⟨Nat.le_of_ble_eq_true rfl, Nat.le_of_ble_eq_true rfl⟩) hK hP hD hS hA [8, 0, 1] [2, 3, 4, 5, 6, 7, 9, 10] rfl rfl (by decide) (by decide) (by decide) 0 rfl rfl rfl rfl hl.1 rfl (Nat.le_of_ble_eq_true rfl) dX3_take_78 ⟨Nat.zero_le _, Nat.zero_le _⟩ (fun v1 w1 H locs hq hP hD hS => ?_)
        rcases hq with ⟨rfl, rfl⟩
        have hP : va_P D vwCl ([(rf, .inl (cI, 4, .inl (RF))), (pl, .inl (cI, 4, .inl (P))), (hd, .inl (cI, 4, .inl (Hd))), (ha, .inl (cI, 4, .inl (HA))), (lo, .inl (cI, 4, .inl (Lo))), (as_, .inl (cI, 64, .inl (AS))), (rw, .inl (cI, 4, .inl (R))), (ol, .inl (cI, 4, .inl (agF R Ol (nI i) (-1)))), (x, .inr (3, [.ref t, .ref z, .int (nI md), .ref rf, .ref rw, .ref pl, .ref hd, .ref ha, .ref lo, .ref ol, .ref as_])), (t, .inl (cI, 192, .inl (flT (upR T i (clsF (T i) ((Z i) - 1) (Z i)))))), (z, .inl (cI, 3, .inl (zI (updN Z i (Z i - 1)))))]) H := hP
        have hD : va_D A ([(rf, .inl (cI, 4, .inl (RF))), (pl, .inl (cI, 4, .inl (P))), (hd, .inl (cI, 4, .inl (Hd))), (ha, .inl (cI, 4, .inl (HA))), (lo, .inl (cI, 4, .inl (Lo))), (as_, .inl (cI, 64, .inl (AS))), (rw, .inl (cI, 4, .inl (R))), (ol, .inl (cI, 4, .inl (agF R Ol (nI i) (-1)))), (x, .inr (3, [.ref t, .ref z, .int (nI md), .ref rf, .ref rw, .ref pl, .ref hd, .ref ha, .ref lo, .ref ol, .ref as_])), (t, .inl (cI, 192, .inl (flT (upR T i (clsF (T i) ((Z i) - 1) (Z i)))))), (z, .inl (cI, 3, .inl (zI (updN Z i (Z i - 1)))))]) := hD
        refine W.eq (g2 := F0 m 81 ls [.int (T i ((Z i) - 1))]) rfl ?_
        have hP := hP.sub (ws' := [(x, .inr (3, [.ref t, .ref z, .int (nI md), .ref rf, .ref rw, .ref pl, .ref hd, .ref ha, .ref lo, .ref ol, .ref as_])), (t, .inl (cI, 192, .inl (flT (upR T i (clsF (T i) ((Z i) - 1) (Z i)))))), (z, .inl (cI, 3, .inl (zI (updN Z i (Z i - 1))))), (rf, .inl (cI, 4, .inl (RF))), (rw, .inl (cI, 4, .inl (R))), (pl, .inl (cI, 4, .inl (P))), (hd, .inl (cI, 4, .inl (Hd))), (ha, .inl (cI, 4, .inl (HA))), (lo, .inl (cI, 4, .inl (Lo))), (ol, .inl (cI, 4, .inl (agF R Ol (nI i) (-1)))), (as_, .inl (cI, 64, .inl (AS)))]) [8, 9, 10, 0, 6, 1, 2, 3, 4, 7, 5] rfl
        have hD := hD.sub (ws' := [(x, .inr (3, [.ref t, .ref z, .int (nI md), .ref rf, .ref rw, .ref pl, .ref hd, .ref ha, .ref lo, .ref ol, .ref as_])), (t, .inl (cI, 192, .inl (flT (upR T i (clsF (T i) ((Z i) - 1) (Z i)))))), (z, .inl (cI, 3, .inl (zI (updN Z i (Z i - 1))))), (rf, .inl (cI, 4, .inl (RF))), (rw, .inl (cI, 4, .inl (R))), (pl, .inl (cI, 4, .inl (P))), (hd, .inl (cI, 4, .inl (Hd))), (ha, .inl (cI, 4, .inl (HA))), (lo, .inl (cI, 4, .inl (Lo))), (ol, .inl (cI, 4, .inl (agF R Ol (nI i) (-1)))), (as_, .inl (cI, 64, .inl (AS)))]) [8, 9, 10, 0, 6, 1, 2, 3, 4, 7, 5] (by decide) rfl
        exact pw_iret hx hb hr (rfl) hlocks dX3_take_81 hS hP hD (by unfold plF; rw [if_neg c_5]; exact ⟨rfl, rfl⟩)
    · exact absurd c_4 hzz
set_option maxHeartbeats 4000000 in
set_option maxRecDepth 100000 in
theorem n_at_x (l : Launch) (D : va_G) (cI cP cR : ClassId) (x t z rf rw pl hd ha lo ol as_ md : Nat) (T : Nat → Nat → Int32) (Z : Nat → Nat) (RF R P Hd HA Lo Ol AS : Nat → Int32) (row q : Int32) (hx_row : ¬ (0 ≤ row ∧ row < nI 3)) : pw_Mp l yX3_at wsX3_at ({ frames := 2, cells := 0, slots := 0, locals := 47 } : Room) D cI cP cR [.ref x, .int (row), .int (q)] ([(x, .inr (3, [.ref t, .ref z, .int (nI md), .ref rf, .ref rw, .ref pl, .ref hd, .ref ha, .ref lo, .ref ol, .ref as_])), (t, .inl (cI, 192, .inl (flT T))), (z, .inl (cI, 3, .inl (zI Z))), (rf, .inl (cI, 4, .inl (RF))), (rw, .inl (cI, 4, .inl (R))), (pl, .inl (cI, 4, .inl (P))), (hd, .inl (cI, 4, .inl (Hd))), (ha, .inl (cI, 4, .inl (HA))), (lo, .inl (cI, 4, .inl (Lo))), (ol, .inl (cI, 4, .inl (Ol))), (as_, .inl (cI, 64, .inl (AS)))]) (.int (-1)) := by
  refine pw_ofp (cc := cX3_at) (maxL := 3) (ret := (some .int)) (own := RX3) (by decide +kernel) rfl rfl (Nat.le_of_ble_eq_true rfl) ?_
  intro p_ e_ s m bel meth cd hE hK hP hD ls hl
  obtain ⟨hx, hb, hr, hml, hown, hts, hlocks⟩ := hE
  have hNW := hK.2
  have hl : lv_has ls 3 [(0, .ref x), (1, .int (row)), (2, .int (q))] := hl
  refine lv_iload_n hx hb dX3_at_0 rfl (lv_at hl 1 rfl) ?_
  -- m_isRow_f
  refine pw_cSp (As := [.int (row)]) (rest := []) ⟨hx, hb, hml, hown, hts⟩ (m_isRow_f l D cI cP cR row hx_row) (va_cwS 1 hts gX3_at_X3_isRow rfl rfl rfl (by decide +kernel) ⟨Nat.le_of_ble_eq_true rfl, Nat.le_of_ble_eq_true rfl⟩) hK rfl hl.1 rfl (Nat.le_of_ble_eq_true rfl) dX3_at_1 ⟨Nat.zero_le _, Nat.zero_le _⟩ ?_
  refine lv_if_ne (tgt := 9) hx hb dX3_at_4 (by decide) (fun c => absurd c (by decide)) (fun c => ?_)
  refine lv_iconst (v := -1) hx hb dX3_at_7 (by decide) ?_
  exact pw_piret hx hb hr (rfl) hlocks dX3_at_8 (rfl)
theorem hi_X3_at_3 : ∀ w ∈ u_ws RX3 TX3 11, w ∈ wsX3_at := by decide +kernel
theorem hf_X3_at_13 : Cond.fieldLink RX3 13 "PegrowModel" "sizes" "[I" ∈ wsX3_at := by decide +kernel
set_option maxHeartbeats 4000000 in
set_option maxRecDepth 100000 in
theorem n_at_p (l : Launch) (D : va_G) (cI cP cR : ClassId) (x t z rf rw pl hd ha lo ol as_ md : Nat) (T : Nat → Nat → Int32) (Z : Nat → Nat) (RF R P Hd HA Lo Ol AS : Nat → Int32) (i : Nat) (hi : i < 3) (hz : Z i ≤ 60) (q : Int32) (hq : ¬ (0 ≤ q ∧ q < nI (Z i))) : pw_Mm l yX3_at wsX3_at ({ frames := 2, cells := 0, slots := 0, locals := 47 } : Room) D cI cP cR [.ref x, .int (nI i), .int (q)] ([(x, .inr (3, [.ref t, .ref z, .int (nI md), .ref rf, .ref rw, .ref pl, .ref hd, .ref ha, .ref lo, .ref ol, .ref as_])), (t, .inl (cI, 192, .inl (flT T))), (z, .inl (cI, 3, .inl (zI Z))), (rf, .inl (cI, 4, .inl (RF))), (rw, .inl (cI, 4, .inl (R))), (pl, .inl (cI, 4, .inl (P))), (hd, .inl (cI, 4, .inl (Hd))), (ha, .inl (cI, 4, .inl (HA))), (lo, .inl (cI, 4, .inl (Lo))), (ol, .inl (cI, 4, .inl (Ol))), (as_, .inl (cI, 64, .inl (AS)))]) (fun v w => v = some (.int (-5)) ∧ w = [(x, .inr (3, [.ref t, .ref z, .int (nI md), .ref rf, .ref rw, .ref pl, .ref hd, .ref ha, .ref lo, .ref ol, .ref as_])), (t, .inl (cI, 192, .inl (flT T))), (z, .inl (cI, 3, .inl (zI Z))), (rf, .inl (cI, 4, .inl (upd RF 1 (RF 1 + nI 1)))), (rw, .inl (cI, 4, .inl (R))), (pl, .inl (cI, 4, .inl (P))), (hd, .inl (cI, 4, .inl (Hd))), (ha, .inl (cI, 4, .inl (HA))), (lo, .inl (cI, 4, .inl (Lo))), (ol, .inl (cI, 4, .inl (Ol))), (as_, .inl (cI, 64, .inl (AS)))]) := by
  refine pw_ofm (cc := cX3_at) (maxL := 3) (ret := (some .int)) (own := RX3) (by decide +kernel) rfl rfl (Nat.le_of_ble_eq_true rfl) ?_
  intro p_ e_ s m bel meth cd A hE hK hP hD hA hS ls hl
  obtain ⟨hx, hb, hr, hml, hown, hts, hlocks⟩ := hE
  have hNW := hK.2
  have hl : lv_has ls 3 [(0, .ref x), (1, .int (nI i)), (2, .int (q))] := hl
  refine lv_iload_n hx hb dX3_at_0 rfl (lv_at hl 1 rfl) ?_
  -- m_isRow_t
  refine pw_cSp (As := [.int (nI i)]) (rest := []) ⟨hx, hb, hml, hown, hts⟩ (m_isRow_t l D cI cP cR i (by omega)) (va_cwS 1 hts gX3_at_X3_isRow rfl rfl rfl (by decide +kernel) ⟨Nat.le_of_ble_eq_true rfl, Nat.le_of_ble_eq_true rfl⟩) hK rfl hl.1 rfl (Nat.le_of_ble_eq_true rfl) dX3_at_1 ⟨Nat.zero_le _, Nat.zero_le _⟩ ?_
  refine lv_if_ne (tgt := 9) hx hb dX3_at_4 (by decide) (fun c => ?_) (fun c => absurd c (by decide))
  refine lv_iload_n hx hb dX3_at_9 rfl (lv_at hl 2 rfl) ?_
  refine lv_iconst (v := nI 0) hx hb dX3_at_10 (by decide) ?_
  refine lv_aload_n hx hb dX3_at_11 rfl (lv_at hl 0 rfl) ?_
  refine va_get (D := D) (ci := 3) (v := .ref z) (C := RX3) (T := TX3) (N := 11) hx hb hts hi_X3_at_3 hown hK.1 hP 0 rfl rfl 1 (by decide) (hts _ hf_X3_at_13) (fun _ h9 => h9) rfl dX3_at_12 ?_
  refine lv_iload_n hx hb dX3_at_15 rfl (lv_at hl 1 rfl) ?_
  refine pw_iald hx hb hK.1 hP 2 0 rfl rfl (by decide) (by omega) dX3_at_16 ?_
  refine pw_top (y := nI (Z i)) rfl ?_
  refine lv_iconst (v := nI 1) hx hb dX3_at_17 (by decide) ?_
  refine lv_isub hx hb dX3_at_18 ?_
  -- m_in_f
  refine pw_cSp (As := [.int (q), .int (nI 0), .int ((nI (Z i)) - (nI 1))]) (rest := []) ⟨hx, hb, hml, hown, hts⟩ (m_in_f l D cI cP cR q (nI 0) ((nI (Z i)) - (nI 1)) (fun h => hq ⟨h.1, (pw_lem1 (by omega)).mp h.2⟩)) (va_cwS 3 hts gX3_at_X3_in rfl rfl rfl (by decide +kernel) ⟨Nat.le_of_ble_eq_true rfl, Nat.le_of_ble_eq_true rfl⟩) hK rfl hl.1 rfl (Nat.le_of_ble_eq_true rfl) dX3_at_19 ⟨Nat.zero_le _, Nat.zero_le _⟩ ?_
  refine lv_if_eq (tgt := 34) hx hb dX3_at_22 (by decide) (fun c => ?_) (fun c => absurd c (by decide))
  refine lv_aload_n hx hb dX3_at_34 rfl (lv_at hl 0 rfl) ?_
  refine lv_iconst (v := nI 1) hx hb dX3_at_35 (by decide) ?_
  refine lv_bipush (v := -5) hx hb dX3_at_36 (by decide) ?_
  -- m_refuse
  refine pw_cVm (As := [.int (nI 1), .int (-5)]) (rest := []) (wc := [(x, .inr (3, [.ref t, .ref z, .int (nI md), .ref rf, .ref rw, .ref pl, .ref hd, .ref ha, .ref lo, .ref ol, .ref as_])), (rf, .inl (cI, 4, .inl (RF)))]) (wr := [(t, .inl (cI, 192, .inl (flT T))), (z, .inl (cI, 3, .inl (zI Z))), (rw, .inl (cI, 4, .inl (R))), (pl, .inl (cI, 4, .inl (P))), (hd, .inl (cI, 4, .inl (Hd))), (ha, .inl (cI, 4, .inl (HA))), (lo, .inl (cI, 4, .inl (Lo))), (ol, .inl (cI, 4, .inl (Ol))), (as_, .inl (cI, 64, .inl (AS)))]) ⟨hx, hb, hml, hown, hts⟩ (m_refuse l D cI cP cR x t z rf rw pl hd ha lo ol as_ md RF 1 (-5) (by decide)) (cwV 2 hts gX3_at_X3_refuse rfl rfl rfl (by decide +kernel) ⟨Nat.le_of_ble_eq_true rfl, Nat.le_of_ble_eq_true rfl⟩) hK hP hD hS hA [0, 3] [1, 2, 4, 5, 6, 7, 8, 9, 10] rfl rfl (by decide) (by decide) (by decide) 0 rfl rfl rfl rfl hl.1 rfl (Nat.le_of_ble_eq_true rfl) dX3_at_38 ⟨Nat.zero_le _, Nat.zero_le _⟩ (fun v1 w1 H locs hq hP hD hS => ?_)
  rcases hq with ⟨rfl, rfl⟩
  have hP : va_P D vwCl ([(t, .inl (cI, 192, .inl (flT T))), (z, .inl (cI, 3, .inl (zI Z))), (rw, .inl (cI, 4, .inl (R))), (pl, .inl (cI, 4, .inl (P))), (hd, .inl (cI, 4, .inl (Hd))), (ha, .inl (cI, 4, .inl (HA))), (lo, .inl (cI, 4, .inl (Lo))), (ol, .inl (cI, 4, .inl (Ol))), (as_, .inl (cI, 64, .inl (AS))), (x, .inr (3, [.ref t, .ref z, .int (nI md), .ref rf, .ref rw, .ref pl, .ref hd, .ref ha, .ref lo, .ref ol, .ref as_])), (rf, .inl (cI, 4, .inl (upd RF 1 (RF 1 + nI 1))))]) H := hP
  have hD : va_D A ([(t, .inl (cI, 192, .inl (flT T))), (z, .inl (cI, 3, .inl (zI Z))), (rw, .inl (cI, 4, .inl (R))), (pl, .inl (cI, 4, .inl (P))), (hd, .inl (cI, 4, .inl (Hd))), (ha, .inl (cI, 4, .inl (HA))), (lo, .inl (cI, 4, .inl (Lo))), (ol, .inl (cI, 4, .inl (Ol))), (as_, .inl (cI, 64, .inl (AS))), (x, .inr (3, [.ref t, .ref z, .int (nI md), .ref rf, .ref rw, .ref pl, .ref hd, .ref ha, .ref lo, .ref ol, .ref as_])), (rf, .inl (cI, 4, .inl (upd RF 1 (RF 1 + nI 1))))]) := hD
  refine W.eq (g2 := F0 m 41 ls [.int (-5)]) rfl ?_
  have hP := hP.sub (ws' := [(x, .inr (3, [.ref t, .ref z, .int (nI md), .ref rf, .ref rw, .ref pl, .ref hd, .ref ha, .ref lo, .ref ol, .ref as_])), (t, .inl (cI, 192, .inl (flT T))), (z, .inl (cI, 3, .inl (zI Z))), (rf, .inl (cI, 4, .inl (upd RF 1 (RF 1 + nI 1)))), (rw, .inl (cI, 4, .inl (R))), (pl, .inl (cI, 4, .inl (P))), (hd, .inl (cI, 4, .inl (Hd))), (ha, .inl (cI, 4, .inl (HA))), (lo, .inl (cI, 4, .inl (Lo))), (ol, .inl (cI, 4, .inl (Ol))), (as_, .inl (cI, 64, .inl (AS)))]) [9, 0, 1, 10, 2, 3, 4, 5, 6, 7, 8] rfl
  have hD := hD.sub (ws' := [(x, .inr (3, [.ref t, .ref z, .int (nI md), .ref rf, .ref rw, .ref pl, .ref hd, .ref ha, .ref lo, .ref ol, .ref as_])), (t, .inl (cI, 192, .inl (flT T))), (z, .inl (cI, 3, .inl (zI Z))), (rf, .inl (cI, 4, .inl (upd RF 1 (RF 1 + nI 1)))), (rw, .inl (cI, 4, .inl (R))), (pl, .inl (cI, 4, .inl (P))), (hd, .inl (cI, 4, .inl (Hd))), (ha, .inl (cI, 4, .inl (HA))), (lo, .inl (cI, 4, .inl (Lo))), (ol, .inl (cI, 4, .inl (Ol))), (as_, .inl (cI, 64, .inl (AS)))]) [9, 0, 1, 10, 2, 3, 4, 5, 6, 7, 8] (by decide) rfl
  exact pw_iret hx hb hr (rfl) hlocks dX3_at_41 hS hP hD (⟨rfl, rfl⟩)
set_option maxHeartbeats 4000000 in
set_option maxRecDepth 100000 in
theorem n_drop_x (l : Launch) (D : va_G) (cI cP cR : ClassId) (x t z rf rw pl hd ha lo ol as_ md : Nat) (T : Nat → Nat → Int32) (Z : Nat → Nat) (RF R P Hd HA Lo Ol AS : Nat → Int32) (row q : Int32) (hx_row : ¬ (0 ≤ row ∧ row < nI 3)) : pw_Mp l yX3_drop wsX3_drop ({ frames := 2, cells := 0, slots := 0, locals := 47 } : Room) D cI cP cR [.ref x, .int (row), .int (q)] ([(x, .inr (3, [.ref t, .ref z, .int (nI md), .ref rf, .ref rw, .ref pl, .ref hd, .ref ha, .ref lo, .ref ol, .ref as_])), (t, .inl (cI, 192, .inl (flT T))), (z, .inl (cI, 3, .inl (zI Z))), (rf, .inl (cI, 4, .inl (RF))), (rw, .inl (cI, 4, .inl (R))), (pl, .inl (cI, 4, .inl (P))), (hd, .inl (cI, 4, .inl (Hd))), (ha, .inl (cI, 4, .inl (HA))), (lo, .inl (cI, 4, .inl (Lo))), (ol, .inl (cI, 4, .inl (Ol))), (as_, .inl (cI, 64, .inl (AS)))]) (.int (-1)) := by
  refine pw_ofp (cc := cX3_drop) (maxL := 3) (ret := (some .int)) (own := RX3) (by decide +kernel) rfl rfl (Nat.le_of_ble_eq_true rfl) ?_
  intro p_ e_ s m bel meth cd hE hK hP hD ls hl
  obtain ⟨hx, hb, hr, hml, hown, hts, hlocks⟩ := hE
  have hNW := hK.2
  have hl : lv_has ls 3 [(0, .ref x), (1, .int (row)), (2, .int (q))] := hl
  refine lv_iload_n hx hb dX3_drop_0 rfl (lv_at hl 1 rfl) ?_
  -- m_isRow_f
  refine pw_cSp (As := [.int (row)]) (rest := []) ⟨hx, hb, hml, hown, hts⟩ (m_isRow_f l D cI cP cR row hx_row) (va_cwS 1 hts gX3_drop_X3_isRow rfl rfl rfl (by decide +kernel) ⟨Nat.le_of_ble_eq_true rfl, Nat.le_of_ble_eq_true rfl⟩) hK rfl hl.1 rfl (Nat.le_of_ble_eq_true rfl) dX3_drop_1 ⟨Nat.zero_le _, Nat.zero_le _⟩ ?_
  refine lv_if_ne (tgt := 9) hx hb dX3_drop_4 (by decide) (fun c => absurd c (by decide)) (fun c => ?_)
  refine lv_iconst (v := -1) hx hb dX3_drop_7 (by decide) ?_
  exact pw_piret hx hb hr (rfl) hlocks dX3_drop_8 (rfl)
theorem hi_X3_drop_3 : ∀ w ∈ u_ws RX3 TX3 11, w ∈ wsX3_drop := by decide +kernel
theorem hf_X3_drop_13 : Cond.fieldLink RX3 13 "PegrowModel" "sizes" "[I" ∈ wsX3_drop := by decide +kernel
set_option maxHeartbeats 4000000 in
set_option maxRecDepth 100000 in
theorem n_drop_p (l : Launch) (D : va_G) (cI cP cR : ClassId) (x t z rf rw pl hd ha lo ol as_ md : Nat) (T : Nat → Nat → Int32) (Z : Nat → Nat) (RF R P Hd HA Lo Ol AS : Nat → Int32) (i : Nat) (hi : i < 3) (hz : Z i ≤ 60) (q : Int32) (hq : ¬ (0 ≤ q ∧ q < nI (Z i))) : pw_Mm l yX3_drop wsX3_drop ({ frames := 2, cells := 0, slots := 0, locals := 47 } : Room) D cI cP cR [.ref x, .int (nI i), .int (q)] ([(x, .inr (3, [.ref t, .ref z, .int (nI md), .ref rf, .ref rw, .ref pl, .ref hd, .ref ha, .ref lo, .ref ol, .ref as_])), (t, .inl (cI, 192, .inl (flT T))), (z, .inl (cI, 3, .inl (zI Z))), (rf, .inl (cI, 4, .inl (RF))), (rw, .inl (cI, 4, .inl (R))), (pl, .inl (cI, 4, .inl (P))), (hd, .inl (cI, 4, .inl (Hd))), (ha, .inl (cI, 4, .inl (HA))), (lo, .inl (cI, 4, .inl (Lo))), (ol, .inl (cI, 4, .inl (Ol))), (as_, .inl (cI, 64, .inl (AS)))]) (fun v w => v = some (.int (-5)) ∧ w = [(x, .inr (3, [.ref t, .ref z, .int (nI md), .ref rf, .ref rw, .ref pl, .ref hd, .ref ha, .ref lo, .ref ol, .ref as_])), (t, .inl (cI, 192, .inl (flT T))), (z, .inl (cI, 3, .inl (zI Z))), (rf, .inl (cI, 4, .inl (upd RF 1 (RF 1 + nI 1)))), (rw, .inl (cI, 4, .inl (R))), (pl, .inl (cI, 4, .inl (P))), (hd, .inl (cI, 4, .inl (Hd))), (ha, .inl (cI, 4, .inl (HA))), (lo, .inl (cI, 4, .inl (Lo))), (ol, .inl (cI, 4, .inl (Ol))), (as_, .inl (cI, 64, .inl (AS)))]) := by
  refine pw_ofm (cc := cX3_drop) (maxL := 3) (ret := (some .int)) (own := RX3) (by decide +kernel) rfl rfl (Nat.le_of_ble_eq_true rfl) ?_
  intro p_ e_ s m bel meth cd A hE hK hP hD hA hS ls hl
  obtain ⟨hx, hb, hr, hml, hown, hts, hlocks⟩ := hE
  have hNW := hK.2
  have hl : lv_has ls 3 [(0, .ref x), (1, .int (nI i)), (2, .int (q))] := hl
  refine lv_iload_n hx hb dX3_drop_0 rfl (lv_at hl 1 rfl) ?_
  -- m_isRow_t
  refine pw_cSp (As := [.int (nI i)]) (rest := []) ⟨hx, hb, hml, hown, hts⟩ (m_isRow_t l D cI cP cR i (by omega)) (va_cwS 1 hts gX3_drop_X3_isRow rfl rfl rfl (by decide +kernel) ⟨Nat.le_of_ble_eq_true rfl, Nat.le_of_ble_eq_true rfl⟩) hK rfl hl.1 rfl (Nat.le_of_ble_eq_true rfl) dX3_drop_1 ⟨Nat.zero_le _, Nat.zero_le _⟩ ?_
  refine lv_if_ne (tgt := 9) hx hb dX3_drop_4 (by decide) (fun c => ?_) (fun c => absurd c (by decide))
  refine lv_iload_n hx hb dX3_drop_9 rfl (lv_at hl 2 rfl) ?_
  refine lv_iconst (v := nI 0) hx hb dX3_drop_10 (by decide) ?_
  refine lv_aload_n hx hb dX3_drop_11 rfl (lv_at hl 0 rfl) ?_
  refine va_get (D := D) (ci := 3) (v := .ref z) (C := RX3) (T := TX3) (N := 11) hx hb hts hi_X3_drop_3 hown hK.1 hP 0 rfl rfl 1 (by decide) (hts _ hf_X3_drop_13) (fun _ h9 => h9) rfl dX3_drop_12 ?_
  refine lv_iload_n hx hb dX3_drop_15 rfl (lv_at hl 1 rfl) ?_
  refine pw_iald hx hb hK.1 hP 2 0 rfl rfl (by decide) (by omega) dX3_drop_16 ?_
  refine pw_top (y := nI (Z i)) rfl ?_
  refine lv_iconst (v := nI 1) hx hb dX3_drop_17 (by decide) ?_
  refine lv_isub hx hb dX3_drop_18 ?_
  -- m_in_f
  refine pw_cSp (As := [.int (q), .int (nI 0), .int ((nI (Z i)) - (nI 1))]) (rest := []) ⟨hx, hb, hml, hown, hts⟩ (m_in_f l D cI cP cR q (nI 0) ((nI (Z i)) - (nI 1)) (fun h => hq ⟨h.1, (pw_lem1 (by omega)).mp h.2⟩)) (va_cwS 3 hts gX3_drop_X3_in rfl rfl rfl (by decide +kernel) ⟨Nat.le_of_ble_eq_true rfl, Nat.le_of_ble_eq_true rfl⟩) hK rfl hl.1 rfl (Nat.le_of_ble_eq_true rfl) dX3_drop_19 ⟨Nat.zero_le _, Nat.zero_le _⟩ ?_
  refine lv_if_ne (tgt := 33) hx hb dX3_drop_22 (by decide) (fun c => absurd c (by decide)) (fun c => ?_)
  refine lv_aload_n hx hb dX3_drop_25 rfl (lv_at hl 0 rfl) ?_
  refine lv_iconst (v := nI 1) hx hb dX3_drop_26 (by decide) ?_
  refine lv_bipush (v := -5) hx hb dX3_drop_27 (by decide) ?_
  -- m_refuse
  refine pw_cVm (As := [.int (nI 1), .int (-5)]) (rest := []) (wc := [(x, .inr (3, [.ref t, .ref z, .int (nI md), .ref rf, .ref rw, .ref pl, .ref hd, .ref ha, .ref lo, .ref ol, .ref as_])), (rf, .inl (cI, 4, .inl (RF)))]) (wr := [(t, .inl (cI, 192, .inl (flT T))), (z, .inl (cI, 3, .inl (zI Z))), (rw, .inl (cI, 4, .inl (R))), (pl, .inl (cI, 4, .inl (P))), (hd, .inl (cI, 4, .inl (Hd))), (ha, .inl (cI, 4, .inl (HA))), (lo, .inl (cI, 4, .inl (Lo))), (ol, .inl (cI, 4, .inl (Ol))), (as_, .inl (cI, 64, .inl (AS)))]) ⟨hx, hb, hml, hown, hts⟩ (m_refuse l D cI cP cR x t z rf rw pl hd ha lo ol as_ md RF 1 (-5) (by decide)) (cwV 2 hts gX3_drop_X3_refuse rfl rfl rfl (by decide +kernel) ⟨Nat.le_of_ble_eq_true rfl, Nat.le_of_ble_eq_true rfl⟩) hK hP hD hS hA [0, 3] [1, 2, 4, 5, 6, 7, 8, 9, 10] rfl rfl (by decide) (by decide) (by decide) 0 rfl rfl rfl rfl hl.1 rfl (Nat.le_of_ble_eq_true rfl) dX3_drop_29 ⟨Nat.zero_le _, Nat.zero_le _⟩ (fun v1 w1 H locs hq hP hD hS => ?_)
  rcases hq with ⟨rfl, rfl⟩
  have hP : va_P D vwCl ([(t, .inl (cI, 192, .inl (flT T))), (z, .inl (cI, 3, .inl (zI Z))), (rw, .inl (cI, 4, .inl (R))), (pl, .inl (cI, 4, .inl (P))), (hd, .inl (cI, 4, .inl (Hd))), (ha, .inl (cI, 4, .inl (HA))), (lo, .inl (cI, 4, .inl (Lo))), (ol, .inl (cI, 4, .inl (Ol))), (as_, .inl (cI, 64, .inl (AS))), (x, .inr (3, [.ref t, .ref z, .int (nI md), .ref rf, .ref rw, .ref pl, .ref hd, .ref ha, .ref lo, .ref ol, .ref as_])), (rf, .inl (cI, 4, .inl (upd RF 1 (RF 1 + nI 1))))]) H := hP
  have hD : va_D A ([(t, .inl (cI, 192, .inl (flT T))), (z, .inl (cI, 3, .inl (zI Z))), (rw, .inl (cI, 4, .inl (R))), (pl, .inl (cI, 4, .inl (P))), (hd, .inl (cI, 4, .inl (Hd))), (ha, .inl (cI, 4, .inl (HA))), (lo, .inl (cI, 4, .inl (Lo))), (ol, .inl (cI, 4, .inl (Ol))), (as_, .inl (cI, 64, .inl (AS))), (x, .inr (3, [.ref t, .ref z, .int (nI md), .ref rf, .ref rw, .ref pl, .ref hd, .ref ha, .ref lo, .ref ol, .ref as_])), (rf, .inl (cI, 4, .inl (upd RF 1 (RF 1 + nI 1))))]) := hD
  refine W.eq (g2 := F0 m 32 ls [.int (-5)]) rfl ?_
  have hP := hP.sub (ws' := [(x, .inr (3, [.ref t, .ref z, .int (nI md), .ref rf, .ref rw, .ref pl, .ref hd, .ref ha, .ref lo, .ref ol, .ref as_])), (t, .inl (cI, 192, .inl (flT T))), (z, .inl (cI, 3, .inl (zI Z))), (rf, .inl (cI, 4, .inl (upd RF 1 (RF 1 + nI 1)))), (rw, .inl (cI, 4, .inl (R))), (pl, .inl (cI, 4, .inl (P))), (hd, .inl (cI, 4, .inl (Hd))), (ha, .inl (cI, 4, .inl (HA))), (lo, .inl (cI, 4, .inl (Lo))), (ol, .inl (cI, 4, .inl (Ol))), (as_, .inl (cI, 64, .inl (AS)))]) [9, 0, 1, 10, 2, 3, 4, 5, 6, 7, 8] rfl
  have hD := hD.sub (ws' := [(x, .inr (3, [.ref t, .ref z, .int (nI md), .ref rf, .ref rw, .ref pl, .ref hd, .ref ha, .ref lo, .ref ol, .ref as_])), (t, .inl (cI, 192, .inl (flT T))), (z, .inl (cI, 3, .inl (zI Z))), (rf, .inl (cI, 4, .inl (upd RF 1 (RF 1 + nI 1)))), (rw, .inl (cI, 4, .inl (R))), (pl, .inl (cI, 4, .inl (P))), (hd, .inl (cI, 4, .inl (Hd))), (ha, .inl (cI, 4, .inl (HA))), (lo, .inl (cI, 4, .inl (Lo))), (ol, .inl (cI, 4, .inl (Ol))), (as_, .inl (cI, 64, .inl (AS)))]) [9, 0, 1, 10, 2, 3, 4, 5, 6, 7, 8] (by decide) rfl
  exact pw_iret hx hb hr (rfl) hlocks dX3_drop_32 hS hP hD (⟨rfl, rfl⟩)
set_option maxHeartbeats 4000000 in
set_option maxRecDepth 100000 in
theorem n_at (l : Launch) (D : va_G) (cI cP cR : ClassId) (x t z rf rw pl hd ha lo ol as_ md : Nat) (T : Nat → Nat → Int32) (Z : Nat → Nat) (RF R P Hd HA Lo Ol AS : Nat → Int32) (i : Nat) (hi : i < 3) (hz : Z i ≤ 60) (j : Nat) (hj : j < Z i) : pw_Mp l yX3_at wsX3_at ({ frames := 2, cells := 0, slots := 0, locals := 47 } : Room) D cI cP cR [.ref x, .int (nI i), .int (nI j)] ([(x, .inr (3, [.ref t, .ref z, .int (nI md), .ref rf, .ref rw, .ref pl, .ref hd, .ref ha, .ref lo, .ref ol, .ref as_])), (t, .inl (cI, 192, .inl (flT T))), (z, .inl (cI, 3, .inl (zI Z))), (rf, .inl (cI, 4, .inl (RF))), (rw, .inl (cI, 4, .inl (R))), (pl, .inl (cI, 4, .inl (P))), (hd, .inl (cI, 4, .inl (Hd))), (ha, .inl (cI, 4, .inl (HA))), (lo, .inl (cI, 4, .inl (Lo))), (ol, .inl (cI, 4, .inl (Ol))), (as_, .inl (cI, 64, .inl (AS)))]) (.int (T i j)) := by
  refine pw_ofp (cc := cX3_at) (maxL := 3) (ret := (some .int)) (own := RX3) (by decide +kernel) rfl rfl (Nat.le_of_ble_eq_true rfl) ?_
  intro p_ e_ s m bel meth cd hE hK hP hD ls hl
  obtain ⟨hx, hb, hr, hml, hown, hts, hlocks⟩ := hE
  have hNW := hK.2
  have hl : lv_has ls 3 [(0, .ref x), (1, .int (nI i)), (2, .int (nI j))] := hl
  refine lv_iload_n hx hb dX3_at_0 rfl (lv_at hl 1 rfl) ?_
  -- m_isRow_t
  refine pw_cSp (As := [.int (nI i)]) (rest := []) ⟨hx, hb, hml, hown, hts⟩ (m_isRow_t l D cI cP cR i (by omega)) (va_cwS 1 hts gX3_at_X3_isRow rfl rfl rfl (by decide +kernel) ⟨Nat.le_of_ble_eq_true rfl, Nat.le_of_ble_eq_true rfl⟩) hK rfl hl.1 rfl (Nat.le_of_ble_eq_true rfl) dX3_at_1 ⟨Nat.zero_le _, Nat.zero_le _⟩ ?_
  refine lv_if_ne (tgt := 9) hx hb dX3_at_4 (by decide) (fun c => ?_) (fun c => absurd c (by decide))
  refine lv_iload_n hx hb dX3_at_9 rfl (lv_at hl 2 rfl) ?_
  refine lv_iconst (v := nI 0) hx hb dX3_at_10 (by decide) ?_
  refine lv_aload_n hx hb dX3_at_11 rfl (lv_at hl 0 rfl) ?_
  refine va_get (D := D) (ci := 3) (v := .ref z) (C := RX3) (T := TX3) (N := 11) hx hb hts hi_X3_at_3 hown hK.1 hP 0 rfl rfl 1 (by decide) (hts _ hf_X3_at_13) (fun _ h9 => h9) rfl dX3_at_12 ?_
  refine lv_iload_n hx hb dX3_at_15 rfl (lv_at hl 1 rfl) ?_
  refine pw_iald hx hb hK.1 hP 2 0 rfl rfl (by decide) (by omega) dX3_at_16 ?_
  refine pw_top (y := nI (Z i)) rfl ?_
  refine lv_iconst (v := nI 1) hx hb dX3_at_17 (by decide) ?_
  refine pw_isub hx hb (by omega) dX3_at_18 ?_
  -- m_in_t
  refine pw_cSp (As := [.int (nI j), .int (nI 0), .int (nI ((Z i) - 1))]) (rest := []) ⟨hx, hb, hml, hown, hts⟩ (m_in_t l D cI cP cR (nI j) (nI 0) (nI ((Z i) - 1)) (⟨pw_ge0 (by omega), (pw_leN (by omega) (by omega)).mpr (by omega)⟩)) (va_cwS 3 hts gX3_at_X3_in rfl rfl rfl (by decide +kernel) ⟨Nat.le_of_ble_eq_true rfl, Nat.le_of_ble_eq_true rfl⟩) hK rfl hl.1 rfl (Nat.le_of_ble_eq_true rfl) dX3_at_19 ⟨Nat.zero_le _, Nat.zero_le _⟩ ?_
  refine lv_if_eq (tgt := 34) hx hb dX3_at_22 (by decide) (fun c => absurd c (by decide)) (fun c => ?_)
  refine lv_aload_n hx hb dX3_at_25 rfl (lv_at hl 0 rfl) ?_
  refine lv_iload_n hx hb dX3_at_26 rfl (lv_at hl 1 rfl) ?_
  refine lv_iload_n hx hb dX3_at_27 rfl (lv_at hl 2 rfl) ?_
  -- m_thing
  refine pw_cVp (As := [.int (nI i), .int (nI j)]) (rest := []) (wc := [(x, .inr (3, [.ref t, .ref z, .int (nI md), .ref rf, .ref rw, .ref pl, .ref hd, .ref ha, .ref lo, .ref ol, .ref as_])), (t, .inl (cI, 192, .inl (flT T)))]) ⟨hx, hb, hml, hown, hts⟩ (m_thing l D cI cP cR x t z rf rw pl hd ha lo ol as_ md T i j (by omega) (by omega)) (cwV 2 hts gX3_at_X3_thing rfl rfl rfl (by decide +kernel) ⟨Nat.le_of_ble_eq_true rfl, Nat.le_of_ble_eq_true rfl⟩) hK hP hD [0, 1] rfl (by decide) 0 rfl rfl rfl rfl hl.1 rfl (Nat.le_of_ble_eq_true rfl) dX3_at_28 ⟨Nat.zero_le _, Nat.zero_le _⟩ ?_
  refine lv_goto (tgt := 41) hx hb dX3_at_31 (by decide) ?_
  exact pw_piret hx hb hr (rfl) hlocks dX3_at_41 (rfl)
set_option maxHeartbeats 4000000 in
set_option maxRecDepth 100000 in
theorem n_drop (l : Launch) (D : va_G) (cI cP cR : ClassId) (x t z rf rw pl hd ha lo ol as_ md : Nat) (T : Nat → Nat → Int32) (Z : Nat → Nat) (RF R P Hd HA Lo Ol AS : Nat → Int32) (i : Nat) (hi : i < 3) (hz : Z i ≤ 60) (j : Nat) (hj : j < Z i) : pw_Mm l yX3_drop wsX3_drop ({ frames := 2, cells := 0, slots := 0, locals := 47 } : Room) D cI cP cR [.ref x, .int (nI i), .int (nI j)] ([(x, .inr (3, [.ref t, .ref z, .int (nI md), .ref rf, .ref rw, .ref pl, .ref hd, .ref ha, .ref lo, .ref ol, .ref as_])), (t, .inl (cI, 192, .inl (flT T))), (z, .inl (cI, 3, .inl (zI Z))), (rf, .inl (cI, 4, .inl (RF))), (rw, .inl (cI, 4, .inl (R))), (pl, .inl (cI, 4, .inl (P))), (hd, .inl (cI, 4, .inl (Hd))), (ha, .inl (cI, 4, .inl (HA))), (lo, .inl (cI, 4, .inl (Lo))), (ol, .inl (cI, 4, .inl (Ol))), (as_, .inl (cI, 64, .inl (AS)))]) (fun v w => v = some (.int (T i j)) ∧ w = [(x, .inr (3, [.ref t, .ref z, .int (nI md), .ref rf, .ref rw, .ref pl, .ref hd, .ref ha, .ref lo, .ref ol, .ref as_])), (t, .inl (cI, 192, .inl (flT (upR T i (clsF (T i) j (Z i)))))), (z, .inl (cI, 3, .inl (zI (updN Z i (Z i - 1))))), (rf, .inl (cI, 4, .inl (RF))), (rw, .inl (cI, 4, .inl (R))), (pl, .inl (cI, 4, .inl (P))), (hd, .inl (cI, 4, .inl (Hd))), (ha, .inl (cI, 4, .inl (HA))), (lo, .inl (cI, 4, .inl (Lo))), (ol, .inl (cI, 4, .inl (agF R Ol (nI i) (-1)))), (as_, .inl (cI, 64, .inl (AS)))]) := by
  refine pw_ofm (cc := cX3_drop) (maxL := 3) (ret := (some .int)) (own := RX3) (by decide +kernel) rfl rfl (Nat.le_of_ble_eq_true rfl) ?_
  intro p_ e_ s m bel meth cd A hE hK hP hD hA hS ls hl
  obtain ⟨hx, hb, hr, hml, hown, hts, hlocks⟩ := hE
  have hNW := hK.2
  have hl : lv_has ls 3 [(0, .ref x), (1, .int (nI i)), (2, .int (nI j))] := hl
  refine lv_iload_n hx hb dX3_drop_0 rfl (lv_at hl 1 rfl) ?_
  -- m_isRow_t
  refine pw_cSp (As := [.int (nI i)]) (rest := []) ⟨hx, hb, hml, hown, hts⟩ (m_isRow_t l D cI cP cR i (by omega)) (va_cwS 1 hts gX3_drop_X3_isRow rfl rfl rfl (by decide +kernel) ⟨Nat.le_of_ble_eq_true rfl, Nat.le_of_ble_eq_true rfl⟩) hK rfl hl.1 rfl (Nat.le_of_ble_eq_true rfl) dX3_drop_1 ⟨Nat.zero_le _, Nat.zero_le _⟩ ?_
  refine lv_if_ne (tgt := 9) hx hb dX3_drop_4 (by decide) (fun c => ?_) (fun c => absurd c (by decide))
  refine lv_iload_n hx hb dX3_drop_9 rfl (lv_at hl 2 rfl) ?_
  refine lv_iconst (v := nI 0) hx hb dX3_drop_10 (by decide) ?_
  refine lv_aload_n hx hb dX3_drop_11 rfl (lv_at hl 0 rfl) ?_
  refine va_get (D := D) (ci := 3) (v := .ref z) (C := RX3) (T := TX3) (N := 11) hx hb hts hi_X3_drop_3 hown hK.1 hP 0 rfl rfl 1 (by decide) (hts _ hf_X3_drop_13) (fun _ h9 => h9) rfl dX3_drop_12 ?_
  refine lv_iload_n hx hb dX3_drop_15 rfl (lv_at hl 1 rfl) ?_
  refine pw_iald hx hb hK.1 hP 2 0 rfl rfl (by decide) (by omega) dX3_drop_16 ?_
  refine pw_top (y := nI (Z i)) rfl ?_
  refine lv_iconst (v := nI 1) hx hb dX3_drop_17 (by decide) ?_
  refine pw_isub hx hb (by omega) dX3_drop_18 ?_
  -- m_in_t
  refine pw_cSp (As := [.int (nI j), .int (nI 0), .int (nI ((Z i) - 1))]) (rest := []) ⟨hx, hb, hml, hown, hts⟩ (m_in_t l D cI cP cR (nI j) (nI 0) (nI ((Z i) - 1)) (⟨pw_ge0 (by omega), (pw_leN (by omega) (by omega)).mpr (by omega)⟩)) (va_cwS 3 hts gX3_drop_X3_in rfl rfl rfl (by decide +kernel) ⟨Nat.le_of_ble_eq_true rfl, Nat.le_of_ble_eq_true rfl⟩) hK rfl hl.1 rfl (Nat.le_of_ble_eq_true rfl) dX3_drop_19 ⟨Nat.zero_le _, Nat.zero_le _⟩ ?_
  refine lv_if_ne (tgt := 33) hx hb dX3_drop_22 (by decide) (fun c => ?_) (fun c => absurd c (by decide))
  refine lv_aload_n hx hb dX3_drop_33 rfl (lv_at hl 0 rfl) ?_
  refine lv_iload_n hx hb dX3_drop_34 rfl (lv_at hl 1 rfl) ?_
  refine lv_iconst (v := -1) hx hb dX3_drop_35 (by decide) ?_
  -- m_age
  refine pw_cVm (As := [.int (nI i), .int (-1)]) (rest := []) (wc := [(x, .inr (3, [.ref t, .ref z, .int (nI md), .ref rf, .ref rw, .ref pl, .ref hd, .ref ha, .ref lo, .ref ol, .ref as_])), (rw, .inl (cI, 4, .inl (R))), (ol, .inl (cI, 4, .inl (Ol)))]) (wr := [(t, .inl (cI, 192, .inl (flT T))), (z, .inl (cI, 3, .inl (zI Z))), (rf, .inl (cI, 4, .inl (RF))), (pl, .inl (cI, 4, .inl (P))), (hd, .inl (cI, 4, .inl (Hd))), (ha, .inl (cI, 4, .inl (HA))), (lo, .inl (cI, 4, .inl (Lo))), (as_, .inl (cI, 64, .inl (AS)))]) ⟨hx, hb, hml, hown, hts⟩ (m_age l D cI cP cR x t z rf rw pl hd ha lo ol as_ md R Ol i (-1)) (cwV 2 hts gX3_drop_X3_age rfl rfl rfl (by decide +kernel) ⟨Nat.le_of_ble_eq_true rfl, Nat.le_of_ble_eq_true rfl⟩) hK hP hD hS hA [0, 4, 9] [1, 2, 3, 5, 6, 7, 8, 10] rfl rfl (by decide) (by decide) (by decide) 0 rfl rfl rfl rfl hl.1 rfl (Nat.le_of_ble_eq_true rfl) dX3_drop_36 ⟨Nat.zero_le _, Nat.zero_le _⟩ (fun v1 w1 H locs hq hP hD hS => ?_)
  rcases hq with ⟨rfl, rfl⟩
  have hP : va_P D vwCl ([(t, .inl (cI, 192, .inl (flT T))), (z, .inl (cI, 3, .inl (zI Z))), (rf, .inl (cI, 4, .inl (RF))), (pl, .inl (cI, 4, .inl (P))), (hd, .inl (cI, 4, .inl (Hd))), (ha, .inl (cI, 4, .inl (HA))), (lo, .inl (cI, 4, .inl (Lo))), (as_, .inl (cI, 64, .inl (AS))), (x, .inr (3, [.ref t, .ref z, .int (nI md), .ref rf, .ref rw, .ref pl, .ref hd, .ref ha, .ref lo, .ref ol, .ref as_])), (rw, .inl (cI, 4, .inl (R))), (ol, .inl (cI, 4, .inl (agF R Ol (nI i) (-1))))]) H := hP
  have hD : va_D A ([(t, .inl (cI, 192, .inl (flT T))), (z, .inl (cI, 3, .inl (zI Z))), (rf, .inl (cI, 4, .inl (RF))), (pl, .inl (cI, 4, .inl (P))), (hd, .inl (cI, 4, .inl (Hd))), (ha, .inl (cI, 4, .inl (HA))), (lo, .inl (cI, 4, .inl (Lo))), (as_, .inl (cI, 64, .inl (AS))), (x, .inr (3, [.ref t, .ref z, .int (nI md), .ref rf, .ref rw, .ref pl, .ref hd, .ref ha, .ref lo, .ref ol, .ref as_])), (rw, .inl (cI, 4, .inl (R))), (ol, .inl (cI, 4, .inl (agF R Ol (nI i) (-1))))]) := hD
  refine W.eq (g2 := F0 m 39 ls []) rfl ?_
  refine lv_aload_n hx hb dX3_drop_39 rfl (lv_at hl 0 rfl) ?_
  refine lv_iload_n hx hb dX3_drop_40 rfl (lv_at hl 1 rfl) ?_
  refine lv_iload_n hx hb dX3_drop_41 rfl (lv_at hl 2 rfl) ?_
  -- m_close
  refine pw_cVm (As := [.int (nI i), .int (nI j)]) (rest := []) (wc := [(x, .inr (3, [.ref t, .ref z, .int (nI md), .ref rf, .ref rw, .ref pl, .ref hd, .ref ha, .ref lo, .ref ol, .ref as_])), (t, .inl (cI, 192, .inl (flT T))), (z, .inl (cI, 3, .inl (zI Z)))]) (wr := [(rf, .inl (cI, 4, .inl (RF))), (pl, .inl (cI, 4, .inl (P))), (hd, .inl (cI, 4, .inl (Hd))), (ha, .inl (cI, 4, .inl (HA))), (lo, .inl (cI, 4, .inl (Lo))), (as_, .inl (cI, 64, .inl (AS))), (rw, .inl (cI, 4, .inl (R))), (ol, .inl (cI, 4, .inl (agF R Ol (nI i) (-1))))]) ⟨hx, hb, hml, hown, hts⟩ (m_close l D cI cP cR x t z rf rw pl hd ha lo ol as_ md T Z i j (by omega) (by omega) (by omega)) (cwV 2 hts gX3_drop_X3_close rfl rfl rfl (by decide +kernel) ⟨Nat.le_of_ble_eq_true rfl, Nat.le_of_ble_eq_true rfl⟩) hK hP hD hS hA [8, 0, 1] [2, 3, 4, 5, 6, 7, 9, 10] rfl rfl (by decide) (by decide) (by decide) 0 rfl rfl rfl rfl hl.1 rfl (Nat.le_of_ble_eq_true rfl) dX3_drop_42 ⟨Nat.zero_le _, Nat.zero_le _⟩ (fun v1 w1 H locs hq hP hD hS => ?_)
  rcases hq with ⟨rfl, rfl⟩
  have hP : va_P D vwCl ([(rf, .inl (cI, 4, .inl (RF))), (pl, .inl (cI, 4, .inl (P))), (hd, .inl (cI, 4, .inl (Hd))), (ha, .inl (cI, 4, .inl (HA))), (lo, .inl (cI, 4, .inl (Lo))), (as_, .inl (cI, 64, .inl (AS))), (rw, .inl (cI, 4, .inl (R))), (ol, .inl (cI, 4, .inl (agF R Ol (nI i) (-1)))), (x, .inr (3, [.ref t, .ref z, .int (nI md), .ref rf, .ref rw, .ref pl, .ref hd, .ref ha, .ref lo, .ref ol, .ref as_])), (t, .inl (cI, 192, .inl (flT (upR T i (clsF (T i) j (Z i)))))), (z, .inl (cI, 3, .inl (zI (updN Z i (Z i - 1)))))]) H := hP
  have hD : va_D A ([(rf, .inl (cI, 4, .inl (RF))), (pl, .inl (cI, 4, .inl (P))), (hd, .inl (cI, 4, .inl (Hd))), (ha, .inl (cI, 4, .inl (HA))), (lo, .inl (cI, 4, .inl (Lo))), (as_, .inl (cI, 64, .inl (AS))), (rw, .inl (cI, 4, .inl (R))), (ol, .inl (cI, 4, .inl (agF R Ol (nI i) (-1)))), (x, .inr (3, [.ref t, .ref z, .int (nI md), .ref rf, .ref rw, .ref pl, .ref hd, .ref ha, .ref lo, .ref ol, .ref as_])), (t, .inl (cI, 192, .inl (flT (upR T i (clsF (T i) j (Z i)))))), (z, .inl (cI, 3, .inl (zI (updN Z i (Z i - 1)))))]) := hD
  refine W.eq (g2 := F0 m 45 ls [.int (T i j)]) rfl ?_
  have hP := hP.sub (ws' := [(x, .inr (3, [.ref t, .ref z, .int (nI md), .ref rf, .ref rw, .ref pl, .ref hd, .ref ha, .ref lo, .ref ol, .ref as_])), (t, .inl (cI, 192, .inl (flT (upR T i (clsF (T i) j (Z i)))))), (z, .inl (cI, 3, .inl (zI (updN Z i (Z i - 1))))), (rf, .inl (cI, 4, .inl (RF))), (rw, .inl (cI, 4, .inl (R))), (pl, .inl (cI, 4, .inl (P))), (hd, .inl (cI, 4, .inl (Hd))), (ha, .inl (cI, 4, .inl (HA))), (lo, .inl (cI, 4, .inl (Lo))), (ol, .inl (cI, 4, .inl (agF R Ol (nI i) (-1)))), (as_, .inl (cI, 64, .inl (AS)))]) [8, 9, 10, 0, 6, 1, 2, 3, 4, 7, 5] rfl
  have hD := hD.sub (ws' := [(x, .inr (3, [.ref t, .ref z, .int (nI md), .ref rf, .ref rw, .ref pl, .ref hd, .ref ha, .ref lo, .ref ol, .ref as_])), (t, .inl (cI, 192, .inl (flT (upR T i (clsF (T i) j (Z i)))))), (z, .inl (cI, 3, .inl (zI (updN Z i (Z i - 1))))), (rf, .inl (cI, 4, .inl (RF))), (rw, .inl (cI, 4, .inl (R))), (pl, .inl (cI, 4, .inl (P))), (hd, .inl (cI, 4, .inl (Hd))), (ha, .inl (cI, 4, .inl (HA))), (lo, .inl (cI, 4, .inl (Lo))), (ol, .inl (cI, 4, .inl (agF R Ol (nI i) (-1)))), (as_, .inl (cI, 64, .inl (AS)))]) [8, 9, 10, 0, 6, 1, 2, 3, 4, 7, 5] (by decide) rfl
  exact pw_iret hx hb hr (rfl) hlocks dX3_drop_45 hS hP hD (⟨rfl, rfl⟩)
set_option maxHeartbeats 4000000 in
set_option maxRecDepth 100000 in
theorem n_lay_x (l : Launch) (D : va_G) (cI cP cR : ClassId) (x t z rf rw pl hd ha lo ol as_ md : Nat) (T : Nat → Nat → Int32) (Z : Nat → Nat) (RF R P Hd HA Lo Ol AS : Nat → Int32) (row q name : Int32) (hbad : ¬ ((0 ≤ row ∧ row < nI 3) ∧ (0 ≤ name ∧ name < nI 10))) : pw_Mp l yX3_lay wsX3_lay ({ frames := 2, cells := 0, slots := 0, locals := 47 } : Room) D cI cP cR [.ref x, .int (row), .int (q), .int (name)] ([(x, .inr (3, [.ref t, .ref z, .int (nI md), .ref rf, .ref rw, .ref pl, .ref hd, .ref ha, .ref lo, .ref ol, .ref as_])), (t, .inl (cI, 192, .inl (flT T))), (z, .inl (cI, 3, .inl (zI Z))), (rf, .inl (cI, 4, .inl (RF))), (rw, .inl (cI, 4, .inl (R))), (pl, .inl (cI, 4, .inl (P))), (hd, .inl (cI, 4, .inl (Hd))), (ha, .inl (cI, 4, .inl (HA))), (lo, .inl (cI, 4, .inl (Lo))), (ol, .inl (cI, 4, .inl (Ol))), (as_, .inl (cI, 64, .inl (AS)))]) (.int (-1)) := by
  refine pw_ofp (cc := cX3_lay) (maxL := 5) (ret := (some .int)) (own := RX3) (by decide +kernel) rfl rfl (Nat.le_of_ble_eq_true rfl) ?_
  intro p_ e_ s m bel meth cd hE hK hP hD ls hl
  obtain ⟨hx, hb, hr, hml, hown, hts, hlocks⟩ := hE
  have hNW := hK.2
  have hl : lv_has ls 5 [(0, .ref x), (1, .int (row)), (2, .int (q)), (3, .int (name))] := hl
  by_cases hx_row : 0 ≤ row ∧ row < nI 3
  · obtain ⟨rj_1, hrj_1, rfl⟩ := pw_inP (by decide) hx_row
    refine lv_iload_n hx hb dX3_lay_0 rfl (lv_at hl 1 rfl) ?_
    -- m_isRow_t
    refine pw_cSp (As := [.int (nI rj_1)]) (rest := []) ⟨hx, hb, hml, hown, hts⟩ (m_isRow_t l D cI cP cR rj_1 (by omega)) (va_cwS 1 hts gX3_lay_X3_isRow rfl rfl rfl (by decide +kernel) ⟨Nat.le_of_ble_eq_true rfl, Nat.le_of_ble_eq_true rfl⟩) hK rfl hl.1 rfl (Nat.le_of_ble_eq_true rfl) dX3_lay_1 ⟨Nat.zero_le _, Nat.zero_le _⟩ ?_
    refine lv_if_eq (tgt := 14) hx hb dX3_lay_4 (by decide) (fun c => absurd c (by decide)) (fun c => ?_)
    refine lv_iload_n hx hb dX3_lay_7 rfl (lv_at hl 3 rfl) ?_
    -- m_isName_f
    refine pw_cSp (As := [.int (name)]) (rest := []) ⟨hx, hb, hml, hown, hts⟩ (m_isName_f l D cI cP cR name (fun h => hbad ⟨hx_row, h⟩)) (va_cwS 1 hts gX3_lay_X3_isName rfl rfl rfl (by decide +kernel) ⟨Nat.le_of_ble_eq_true rfl, Nat.le_of_ble_eq_true rfl⟩) hK rfl hl.1 rfl (Nat.le_of_ble_eq_true rfl) dX3_lay_8 ⟨Nat.zero_le _, Nat.zero_le _⟩ ?_
    refine lv_if_ne (tgt := 16) hx hb dX3_lay_11 (by decide) (fun c => absurd c (by decide)) (fun c => ?_)
    refine lv_iconst (v := -1) hx hb dX3_lay_14 (by decide) ?_
    exact pw_piret hx hb hr (rfl) hlocks dX3_lay_15 (rfl)
  · have _h := hx_row
    refine lv_iload_n hx hb dX3_lay_0 rfl (lv_at hl 1 rfl) ?_
    -- m_isRow_f
    refine pw_cSp (As := [.int (row)]) (rest := []) ⟨hx, hb, hml, hown, hts⟩ (m_isRow_f l D cI cP cR row hx_row) (va_cwS 1 hts gX3_lay_X3_isRow rfl rfl rfl (by decide +kernel) ⟨Nat.le_of_ble_eq_true rfl, Nat.le_of_ble_eq_true rfl⟩) hK rfl hl.1 rfl (Nat.le_of_ble_eq_true rfl) dX3_lay_1 ⟨Nat.zero_le _, Nat.zero_le _⟩ ?_
    refine lv_if_eq (tgt := 14) hx hb dX3_lay_4 (by decide) (fun c => ?_) (fun c => absurd c (by decide))
    refine lv_iconst (v := -1) hx hb dX3_lay_14 (by decide) ?_
    exact pw_piret hx hb hr (rfl) hlocks dX3_lay_15 (rfl)
set_option maxHeartbeats 4000000 in
set_option maxRecDepth 100000 in
theorem n_insert_x (l : Launch) (D : va_G) (cI cP cR : ClassId) (x t z rf rw pl hd ha lo ol as_ md : Nat) (T : Nat → Nat → Int32) (Z : Nat → Nat) (RF R P Hd HA Lo Ol AS : Nat → Int32) (row q name : Int32) (hbad : ¬ ((0 ≤ row ∧ row < nI 3) ∧ (0 ≤ name ∧ name < nI 10))) : pw_Mp l yX3_insert wsX3_insert ({ frames := 2, cells := 0, slots := 0, locals := 47 } : Room) D cI cP cR [.ref x, .int (row), .int (q), .int (name)] ([(x, .inr (3, [.ref t, .ref z, .int (nI md), .ref rf, .ref rw, .ref pl, .ref hd, .ref ha, .ref lo, .ref ol, .ref as_])), (t, .inl (cI, 192, .inl (flT T))), (z, .inl (cI, 3, .inl (zI Z))), (rf, .inl (cI, 4, .inl (RF))), (rw, .inl (cI, 4, .inl (R))), (pl, .inl (cI, 4, .inl (P))), (hd, .inl (cI, 4, .inl (Hd))), (ha, .inl (cI, 4, .inl (HA))), (lo, .inl (cI, 4, .inl (Lo))), (ol, .inl (cI, 4, .inl (Ol))), (as_, .inl (cI, 64, .inl (AS)))]) (.int (-1)) := by
  refine pw_ofp (cc := cX3_insert) (maxL := 4) (ret := (some .int)) (own := RX3) (by decide +kernel) rfl rfl (Nat.le_of_ble_eq_true rfl) ?_
  intro p_ e_ s m bel meth cd hE hK hP hD ls hl
  obtain ⟨hx, hb, hr, hml, hown, hts, hlocks⟩ := hE
  have hNW := hK.2
  have hl : lv_has ls 4 [(0, .ref x), (1, .int (row)), (2, .int (q)), (3, .int (name))] := hl
  by_cases hx_row : 0 ≤ row ∧ row < nI 3
  · obtain ⟨rj_1, hrj_1, rfl⟩ := pw_inP (by decide) hx_row
    refine lv_iload_n hx hb dX3_insert_0 rfl (lv_at hl 1 rfl) ?_
    -- m_isRow_t
    refine pw_cSp (As := [.int (nI rj_1)]) (rest := []) ⟨hx, hb, hml, hown, hts⟩ (m_isRow_t l D cI cP cR rj_1 (by omega)) (va_cwS 1 hts gX3_insert_X3_isRow rfl rfl rfl (by decide +kernel) ⟨Nat.le_of_ble_eq_true rfl, Nat.le_of_ble_eq_true rfl⟩) hK rfl hl.1 rfl (Nat.le_of_ble_eq_true rfl) dX3_insert_1 ⟨Nat.zero_le _, Nat.zero_le _⟩ ?_
    refine lv_if_eq (tgt := 14) hx hb dX3_insert_4 (by decide) (fun c => absurd c (by decide)) (fun c => ?_)
    refine lv_iload_n hx hb dX3_insert_7 rfl (lv_at hl 3 rfl) ?_
    -- m_isName_f
    refine pw_cSp (As := [.int (name)]) (rest := []) ⟨hx, hb, hml, hown, hts⟩ (m_isName_f l D cI cP cR name (fun h => hbad ⟨hx_row, h⟩)) (va_cwS 1 hts gX3_insert_X3_isName rfl rfl rfl (by decide +kernel) ⟨Nat.le_of_ble_eq_true rfl, Nat.le_of_ble_eq_true rfl⟩) hK rfl hl.1 rfl (Nat.le_of_ble_eq_true rfl) dX3_insert_8 ⟨Nat.zero_le _, Nat.zero_le _⟩ ?_
    refine lv_if_ne (tgt := 16) hx hb dX3_insert_11 (by decide) (fun c => absurd c (by decide)) (fun c => ?_)
    refine lv_iconst (v := -1) hx hb dX3_insert_14 (by decide) ?_
    exact pw_piret hx hb hr (rfl) hlocks dX3_insert_15 (rfl)
  · have _h := hx_row
    refine lv_iload_n hx hb dX3_insert_0 rfl (lv_at hl 1 rfl) ?_
    -- m_isRow_f
    refine pw_cSp (As := [.int (row)]) (rest := []) ⟨hx, hb, hml, hown, hts⟩ (m_isRow_f l D cI cP cR row hx_row) (va_cwS 1 hts gX3_insert_X3_isRow rfl rfl rfl (by decide +kernel) ⟨Nat.le_of_ble_eq_true rfl, Nat.le_of_ble_eq_true rfl⟩) hK rfl hl.1 rfl (Nat.le_of_ble_eq_true rfl) dX3_insert_1 ⟨Nat.zero_le _, Nat.zero_le _⟩ ?_
    refine lv_if_eq (tgt := 14) hx hb dX3_insert_4 (by decide) (fun c => ?_) (fun c => absurd c (by decide))
    refine lv_iconst (v := -1) hx hb dX3_insert_14 (by decide) ?_
    exact pw_piret hx hb hr (rfl) hlocks dX3_insert_15 (rfl)
set_option maxHeartbeats 4000000 in
set_option maxRecDepth 100000 in
theorem n_find_x (l : Launch) (D : va_G) (cI cP cR : ClassId) (x t z rf rw pl hd ha lo ol as_ md : Nat) (T : Nat → Nat → Int32) (Z : Nat → Nat) (RF R P Hd HA Lo Ol AS : Nat → Int32) (row name la : Int32) (hbad : ¬ ((0 ≤ row ∧ row < nI 3) ∧ (0 ≤ name ∧ name < nI 10))) : pw_Mp l yX3_find wsX3_find ({ frames := 2, cells := 0, slots := 0, locals := 47 } : Room) D cI cP cR [.ref x, .int (row), .int (name), .int (la)] ([(x, .inr (3, [.ref t, .ref z, .int (nI md), .ref rf, .ref rw, .ref pl, .ref hd, .ref ha, .ref lo, .ref ol, .ref as_])), (t, .inl (cI, 192, .inl (flT T))), (z, .inl (cI, 3, .inl (zI Z))), (rf, .inl (cI, 4, .inl (RF))), (rw, .inl (cI, 4, .inl (R))), (pl, .inl (cI, 4, .inl (P))), (hd, .inl (cI, 4, .inl (Hd))), (ha, .inl (cI, 4, .inl (HA))), (lo, .inl (cI, 4, .inl (Lo))), (ol, .inl (cI, 4, .inl (Ol))), (as_, .inl (cI, 64, .inl (AS)))]) (.int (-1)) := by
  refine pw_ofp (cc := cX3_find) (maxL := 5) (ret := (some .int)) (own := RX3) (by decide +kernel) rfl rfl (Nat.le_of_ble_eq_true rfl) ?_
  intro p_ e_ s m bel meth cd hE hK hP hD ls hl
  obtain ⟨hx, hb, hr, hml, hown, hts, hlocks⟩ := hE
  have hNW := hK.2
  have hl : lv_has ls 5 [(0, .ref x), (1, .int (row)), (2, .int (name)), (3, .int (la))] := hl
  by_cases hx_row : 0 ≤ row ∧ row < nI 3
  · obtain ⟨rj_1, hrj_1, rfl⟩ := pw_inP (by decide) hx_row
    refine lv_iload_n hx hb dX3_find_0 rfl (lv_at hl 1 rfl) ?_
    -- m_isRow_t
    refine pw_cSp (As := [.int (nI rj_1)]) (rest := []) ⟨hx, hb, hml, hown, hts⟩ (m_isRow_t l D cI cP cR rj_1 (by omega)) (va_cwS 1 hts gX3_find_X3_isRow rfl rfl rfl (by decide +kernel) ⟨Nat.le_of_ble_eq_true rfl, Nat.le_of_ble_eq_true rfl⟩) hK rfl hl.1 rfl (Nat.le_of_ble_eq_true rfl) dX3_find_1 ⟨Nat.zero_le _, Nat.zero_le _⟩ ?_
    refine lv_if_eq (tgt := 14) hx hb dX3_find_4 (by decide) (fun c => absurd c (by decide)) (fun c => ?_)
    refine lv_iload_n hx hb dX3_find_7 rfl (lv_at hl 2 rfl) ?_
    -- m_isName_f
    refine pw_cSp (As := [.int (name)]) (rest := []) ⟨hx, hb, hml, hown, hts⟩ (m_isName_f l D cI cP cR name (fun h => hbad ⟨hx_row, h⟩)) (va_cwS 1 hts gX3_find_X3_isName rfl rfl rfl (by decide +kernel) ⟨Nat.le_of_ble_eq_true rfl, Nat.le_of_ble_eq_true rfl⟩) hK rfl hl.1 rfl (Nat.le_of_ble_eq_true rfl) dX3_find_8 ⟨Nat.zero_le _, Nat.zero_le _⟩ ?_
    refine lv_if_ne (tgt := 16) hx hb dX3_find_11 (by decide) (fun c => absurd c (by decide)) (fun c => ?_)
    refine lv_iconst (v := -1) hx hb dX3_find_14 (by decide) ?_
    exact pw_piret hx hb hr (rfl) hlocks dX3_find_15 (rfl)
  · have _h := hx_row
    refine lv_iload_n hx hb dX3_find_0 rfl (lv_at hl 1 rfl) ?_
    -- m_isRow_f
    refine pw_cSp (As := [.int (row)]) (rest := []) ⟨hx, hb, hml, hown, hts⟩ (m_isRow_f l D cI cP cR row hx_row) (va_cwS 1 hts gX3_find_X3_isRow rfl rfl rfl (by decide +kernel) ⟨Nat.le_of_ble_eq_true rfl, Nat.le_of_ble_eq_true rfl⟩) hK rfl hl.1 rfl (Nat.le_of_ble_eq_true rfl) dX3_find_1 ⟨Nat.zero_le _, Nat.zero_le _⟩ ?_
    refine lv_if_eq (tgt := 14) hx hb dX3_find_4 (by decide) (fun c => ?_) (fun c => absurd c (by decide))
    refine lv_iconst (v := -1) hx hb dX3_find_14 (by decide) ?_
    exact pw_piret hx hb hr (rfl) hlocks dX3_find_15 (rfl)
set_option maxHeartbeats 4000000 in
set_option maxRecDepth 100000 in
theorem n_has_x (l : Launch) (D : va_G) (cI cP cR : ClassId) (x t z rf rw pl hd ha lo ol as_ md : Nat) (T : Nat → Nat → Int32) (Z : Nat → Nat) (RF R P Hd HA Lo Ol AS : Nat → Int32) (row name : Int32) (hbad : ¬ ((0 ≤ row ∧ row < nI 3) ∧ (0 ≤ name ∧ name < nI 10))) : pw_Mp l yX3_has wsX3_has ({ frames := 2, cells := 0, slots := 0, locals := 47 } : Room) D cI cP cR [.ref x, .int (row), .int (name)] ([(x, .inr (3, [.ref t, .ref z, .int (nI md), .ref rf, .ref rw, .ref pl, .ref hd, .ref ha, .ref lo, .ref ol, .ref as_])), (t, .inl (cI, 192, .inl (flT T))), (z, .inl (cI, 3, .inl (zI Z))), (rf, .inl (cI, 4, .inl (RF))), (rw, .inl (cI, 4, .inl (R))), (pl, .inl (cI, 4, .inl (P))), (hd, .inl (cI, 4, .inl (Hd))), (ha, .inl (cI, 4, .inl (HA))), (lo, .inl (cI, 4, .inl (Lo))), (ol, .inl (cI, 4, .inl (Ol))), (as_, .inl (cI, 64, .inl (AS)))]) (.int (-1)) := by
  refine pw_ofp (cc := cX3_has) (maxL := 3) (ret := (some .int)) (own := RX3) (by decide +kernel) rfl rfl (Nat.le_of_ble_eq_true rfl) ?_
  intro p_ e_ s m bel meth cd hE hK hP hD ls hl
  obtain ⟨hx, hb, hr, hml, hown, hts, hlocks⟩ := hE
  have hNW := hK.2
  have hl : lv_has ls 3 [(0, .ref x), (1, .int (row)), (2, .int (name))] := hl
  by_cases hx_row : 0 ≤ row ∧ row < nI 3
  · obtain ⟨rj_1, hrj_1, rfl⟩ := pw_inP (by decide) hx_row
    refine lv_iload_n hx hb dX3_has_0 rfl (lv_at hl 1 rfl) ?_
    -- m_isRow_t
    refine pw_cSp (As := [.int (nI rj_1)]) (rest := []) ⟨hx, hb, hml, hown, hts⟩ (m_isRow_t l D cI cP cR rj_1 (by omega)) (va_cwS 1 hts gX3_has_X3_isRow rfl rfl rfl (by decide +kernel) ⟨Nat.le_of_ble_eq_true rfl, Nat.le_of_ble_eq_true rfl⟩) hK rfl hl.1 rfl (Nat.le_of_ble_eq_true rfl) dX3_has_1 ⟨Nat.zero_le _, Nat.zero_le _⟩ ?_
    refine lv_if_eq (tgt := 14) hx hb dX3_has_4 (by decide) (fun c => absurd c (by decide)) (fun c => ?_)
    refine lv_iload_n hx hb dX3_has_7 rfl (lv_at hl 2 rfl) ?_
    -- m_isName_f
    refine pw_cSp (As := [.int (name)]) (rest := []) ⟨hx, hb, hml, hown, hts⟩ (m_isName_f l D cI cP cR name (fun h => hbad ⟨hx_row, h⟩)) (va_cwS 1 hts gX3_has_X3_isName rfl rfl rfl (by decide +kernel) ⟨Nat.le_of_ble_eq_true rfl, Nat.le_of_ble_eq_true rfl⟩) hK rfl hl.1 rfl (Nat.le_of_ble_eq_true rfl) dX3_has_8 ⟨Nat.zero_le _, Nat.zero_le _⟩ ?_
    refine lv_if_ne (tgt := 16) hx hb dX3_has_11 (by decide) (fun c => absurd c (by decide)) (fun c => ?_)
    refine lv_iconst (v := -1) hx hb dX3_has_14 (by decide) ?_
    exact pw_piret hx hb hr (rfl) hlocks dX3_has_15 (rfl)
  · have _h := hx_row
    refine lv_iload_n hx hb dX3_has_0 rfl (lv_at hl 1 rfl) ?_
    -- m_isRow_f
    refine pw_cSp (As := [.int (row)]) (rest := []) ⟨hx, hb, hml, hown, hts⟩ (m_isRow_f l D cI cP cR row hx_row) (va_cwS 1 hts gX3_has_X3_isRow rfl rfl rfl (by decide +kernel) ⟨Nat.le_of_ble_eq_true rfl, Nat.le_of_ble_eq_true rfl⟩) hK rfl hl.1 rfl (Nat.le_of_ble_eq_true rfl) dX3_has_1 ⟨Nat.zero_le _, Nat.zero_le _⟩ ?_
    refine lv_if_eq (tgt := 14) hx hb dX3_has_4 (by decide) (fun c => ?_) (fun c => absurd c (by decide))
    refine lv_iconst (v := -1) hx hb dX3_has_14 (by decide) ?_
    exact pw_piret hx hb hr (rfl) hlocks dX3_has_15 (rfl)
theorem hi_X3_lay_3 : ∀ w ∈ u_ws RX3 TX3 11, w ∈ wsX3_lay := by decide +kernel
theorem hf_X3_lay_13 : Cond.fieldLink RX3 13 "PegrowModel" "sizes" "[I" ∈ wsX3_lay := by decide +kernel
set_option maxHeartbeats 4000000 in
set_option maxRecDepth 100000 in
theorem n_lay_p (l : Launch) (D : va_G) (cI cP cR : ClassId) (x t z rf rw pl hd ha lo ol as_ md : Nat) (T : Nat → Nat → Int32) (Z : Nat → Nat) (RF R P Hd HA Lo Ol AS : Nat → Int32) (i : Nat) (hi : i < 3) (hz : Z i ≤ 60) (q : Int32) (hq : ¬ (0 ≤ q ∧ q < nI (Z i))) (nm : Nat) (hnm : nm < 10) : pw_Mm l yX3_lay wsX3_lay ({ frames := 2, cells := 0, slots := 0, locals := 47 } : Room) D cI cP cR [.ref x, .int (nI i), .int (q), .int (nI nm)] ([(x, .inr (3, [.ref t, .ref z, .int (nI md), .ref rf, .ref rw, .ref pl, .ref hd, .ref ha, .ref lo, .ref ol, .ref as_])), (t, .inl (cI, 192, .inl (flT T))), (z, .inl (cI, 3, .inl (zI Z))), (rf, .inl (cI, 4, .inl (RF))), (rw, .inl (cI, 4, .inl (R))), (pl, .inl (cI, 4, .inl (P))), (hd, .inl (cI, 4, .inl (Hd))), (ha, .inl (cI, 4, .inl (HA))), (lo, .inl (cI, 4, .inl (Lo))), (ol, .inl (cI, 4, .inl (Ol))), (as_, .inl (cI, 64, .inl (AS)))]) (fun v w => v = some (.int (-5)) ∧ w = [(x, .inr (3, [.ref t, .ref z, .int (nI md), .ref rf, .ref rw, .ref pl, .ref hd, .ref ha, .ref lo, .ref ol, .ref as_])), (t, .inl (cI, 192, .inl (flT T))), (z, .inl (cI, 3, .inl (zI Z))), (rf, .inl (cI, 4, .inl (upd RF 1 (RF 1 + nI 1)))), (rw, .inl (cI, 4, .inl (R))), (pl, .inl (cI, 4, .inl (P))), (hd, .inl (cI, 4, .inl (Hd))), (ha, .inl (cI, 4, .inl (HA))), (lo, .inl (cI, 4, .inl (Lo))), (ol, .inl (cI, 4, .inl (Ol))), (as_, .inl (cI, 64, .inl (AS)))]) := by
  refine pw_ofm (cc := cX3_lay) (maxL := 5) (ret := (some .int)) (own := RX3) (by decide +kernel) rfl rfl (Nat.le_of_ble_eq_true rfl) ?_
  intro p_ e_ s m bel meth cd A hE hK hP hD hA hS ls hl
  obtain ⟨hx, hb, hr, hml, hown, hts, hlocks⟩ := hE
  have hNW := hK.2
  have hl : lv_has ls 5 [(0, .ref x), (1, .int (nI i)), (2, .int (q)), (3, .int (nI nm))] := hl
  refine lv_iload_n hx hb dX3_lay_0 rfl (lv_at hl 1 rfl) ?_
  -- m_isRow_t
  refine pw_cSp (As := [.int (nI i)]) (rest := []) ⟨hx, hb, hml, hown, hts⟩ (m_isRow_t l D cI cP cR i (by omega)) (va_cwS 1 hts gX3_lay_X3_isRow rfl rfl rfl (by decide +kernel) ⟨Nat.le_of_ble_eq_true rfl, Nat.le_of_ble_eq_true rfl⟩) hK rfl hl.1 rfl (Nat.le_of_ble_eq_true rfl) dX3_lay_1 ⟨Nat.zero_le _, Nat.zero_le _⟩ ?_
  refine lv_if_eq (tgt := 14) hx hb dX3_lay_4 (by decide) (fun c => absurd c (by decide)) (fun c => ?_)
  refine lv_iload_n hx hb dX3_lay_7 rfl (lv_at hl 3 rfl) ?_
  -- m_isName_t
  refine pw_cSp (As := [.int (nI nm)]) (rest := []) ⟨hx, hb, hml, hown, hts⟩ (m_isName_t l D cI cP cR nm (by omega)) (va_cwS 1 hts gX3_lay_X3_isName rfl rfl rfl (by decide +kernel) ⟨Nat.le_of_ble_eq_true rfl, Nat.le_of_ble_eq_true rfl⟩) hK rfl hl.1 rfl (Nat.le_of_ble_eq_true rfl) dX3_lay_8 ⟨Nat.zero_le _, Nat.zero_le _⟩ ?_
  refine lv_if_ne (tgt := 16) hx hb dX3_lay_11 (by decide) (fun c => ?_) (fun c => absurd c (by decide))
  refine lv_iload_n hx hb dX3_lay_16 rfl (lv_at hl 2 rfl) ?_
  refine lv_iconst (v := nI 0) hx hb dX3_lay_17 (by decide) ?_
  refine lv_aload_n hx hb dX3_lay_18 rfl (lv_at hl 0 rfl) ?_
  refine va_get (D := D) (ci := 3) (v := .ref z) (C := RX3) (T := TX3) (N := 11) hx hb hts hi_X3_lay_3 hown hK.1 hP 0 rfl rfl 1 (by decide) (hts _ hf_X3_lay_13) (fun _ h9 => h9) rfl dX3_lay_19 ?_
  refine lv_iload_n hx hb dX3_lay_22 rfl (lv_at hl 1 rfl) ?_
  refine pw_iald hx hb hK.1 hP 2 0 rfl rfl (by decide) (by omega) dX3_lay_23 ?_
  refine pw_top (y := nI (Z i)) rfl ?_
  refine lv_iconst (v := nI 1) hx hb dX3_lay_24 (by decide) ?_
  refine lv_isub hx hb dX3_lay_25 ?_
  -- m_in_f
  refine pw_cSp (As := [.int (q), .int (nI 0), .int ((nI (Z i)) - (nI 1))]) (rest := []) ⟨hx, hb, hml, hown, hts⟩ (m_in_f l D cI cP cR q (nI 0) ((nI (Z i)) - (nI 1)) (fun h => hq ⟨h.1, (pw_lem1 (by omega)).mp h.2⟩)) (va_cwS 3 hts gX3_lay_X3_in rfl rfl rfl (by decide +kernel) ⟨Nat.le_of_ble_eq_true rfl, Nat.le_of_ble_eq_true rfl⟩) hK rfl hl.1 rfl (Nat.le_of_ble_eq_true rfl) dX3_lay_26 ⟨Nat.zero_le _, Nat.zero_le _⟩ ?_
  refine lv_if_ne (tgt := 40) hx hb dX3_lay_29 (by decide) (fun c => absurd c (by decide)) (fun c => ?_)
  refine lv_aload_n hx hb dX3_lay_32 rfl (lv_at hl 0 rfl) ?_
  refine lv_iconst (v := nI 1) hx hb dX3_lay_33 (by decide) ?_
  refine lv_bipush (v := -5) hx hb dX3_lay_34 (by decide) ?_
  -- m_refuse
  refine pw_cVm (As := [.int (nI 1), .int (-5)]) (rest := []) (wc := [(x, .inr (3, [.ref t, .ref z, .int (nI md), .ref rf, .ref rw, .ref pl, .ref hd, .ref ha, .ref lo, .ref ol, .ref as_])), (rf, .inl (cI, 4, .inl (RF)))]) (wr := [(t, .inl (cI, 192, .inl (flT T))), (z, .inl (cI, 3, .inl (zI Z))), (rw, .inl (cI, 4, .inl (R))), (pl, .inl (cI, 4, .inl (P))), (hd, .inl (cI, 4, .inl (Hd))), (ha, .inl (cI, 4, .inl (HA))), (lo, .inl (cI, 4, .inl (Lo))), (ol, .inl (cI, 4, .inl (Ol))), (as_, .inl (cI, 64, .inl (AS)))]) ⟨hx, hb, hml, hown, hts⟩ (m_refuse l D cI cP cR x t z rf rw pl hd ha lo ol as_ md RF 1 (-5) (by decide)) (cwV 2 hts gX3_lay_X3_refuse rfl rfl rfl (by decide +kernel) ⟨Nat.le_of_ble_eq_true rfl, Nat.le_of_ble_eq_true rfl⟩) hK hP hD hS hA [0, 3] [1, 2, 4, 5, 6, 7, 8, 9, 10] rfl rfl (by decide) (by decide) (by decide) 0 rfl rfl rfl rfl hl.1 rfl (Nat.le_of_ble_eq_true rfl) dX3_lay_36 ⟨Nat.zero_le _, Nat.zero_le _⟩ (fun v1 w1 H locs hq hP hD hS => ?_)
  rcases hq with ⟨rfl, rfl⟩
  have hP : va_P D vwCl ([(t, .inl (cI, 192, .inl (flT T))), (z, .inl (cI, 3, .inl (zI Z))), (rw, .inl (cI, 4, .inl (R))), (pl, .inl (cI, 4, .inl (P))), (hd, .inl (cI, 4, .inl (Hd))), (ha, .inl (cI, 4, .inl (HA))), (lo, .inl (cI, 4, .inl (Lo))), (ol, .inl (cI, 4, .inl (Ol))), (as_, .inl (cI, 64, .inl (AS))), (x, .inr (3, [.ref t, .ref z, .int (nI md), .ref rf, .ref rw, .ref pl, .ref hd, .ref ha, .ref lo, .ref ol, .ref as_])), (rf, .inl (cI, 4, .inl (upd RF 1 (RF 1 + nI 1))))]) H := hP
  have hD : va_D A ([(t, .inl (cI, 192, .inl (flT T))), (z, .inl (cI, 3, .inl (zI Z))), (rw, .inl (cI, 4, .inl (R))), (pl, .inl (cI, 4, .inl (P))), (hd, .inl (cI, 4, .inl (Hd))), (ha, .inl (cI, 4, .inl (HA))), (lo, .inl (cI, 4, .inl (Lo))), (ol, .inl (cI, 4, .inl (Ol))), (as_, .inl (cI, 64, .inl (AS))), (x, .inr (3, [.ref t, .ref z, .int (nI md), .ref rf, .ref rw, .ref pl, .ref hd, .ref ha, .ref lo, .ref ol, .ref as_])), (rf, .inl (cI, 4, .inl (upd RF 1 (RF 1 + nI 1))))]) := hD
  refine W.eq (g2 := F0 m 39 ls [.int (-5)]) rfl ?_
  have hP := hP.sub (ws' := [(x, .inr (3, [.ref t, .ref z, .int (nI md), .ref rf, .ref rw, .ref pl, .ref hd, .ref ha, .ref lo, .ref ol, .ref as_])), (t, .inl (cI, 192, .inl (flT T))), (z, .inl (cI, 3, .inl (zI Z))), (rf, .inl (cI, 4, .inl (upd RF 1 (RF 1 + nI 1)))), (rw, .inl (cI, 4, .inl (R))), (pl, .inl (cI, 4, .inl (P))), (hd, .inl (cI, 4, .inl (Hd))), (ha, .inl (cI, 4, .inl (HA))), (lo, .inl (cI, 4, .inl (Lo))), (ol, .inl (cI, 4, .inl (Ol))), (as_, .inl (cI, 64, .inl (AS)))]) [9, 0, 1, 10, 2, 3, 4, 5, 6, 7, 8] rfl
  have hD := hD.sub (ws' := [(x, .inr (3, [.ref t, .ref z, .int (nI md), .ref rf, .ref rw, .ref pl, .ref hd, .ref ha, .ref lo, .ref ol, .ref as_])), (t, .inl (cI, 192, .inl (flT T))), (z, .inl (cI, 3, .inl (zI Z))), (rf, .inl (cI, 4, .inl (upd RF 1 (RF 1 + nI 1)))), (rw, .inl (cI, 4, .inl (R))), (pl, .inl (cI, 4, .inl (P))), (hd, .inl (cI, 4, .inl (Hd))), (ha, .inl (cI, 4, .inl (HA))), (lo, .inl (cI, 4, .inl (Lo))), (ol, .inl (cI, 4, .inl (Ol))), (as_, .inl (cI, 64, .inl (AS)))]) [9, 0, 1, 10, 2, 3, 4, 5, 6, 7, 8] (by decide) rfl
  exact pw_iret hx hb hr (rfl) hlocks dX3_lay_39 hS hP hD (⟨rfl, rfl⟩)
theorem hf_X3_lay_7 : Cond.fieldLink RX3 7 "PegrowModel" "things" "[I" ∈ wsX3_lay := by decide +kernel
set_option maxHeartbeats 4000000 in
set_option maxRecDepth 100000 in
theorem n_lay (l : Launch) (D : va_G) (cI cP cR : ClassId) (x t z rf rw pl hd ha lo ol as_ md : Nat) (T : Nat → Nat → Int32) (Z : Nat → Nat) (RF R P Hd HA Lo Ol AS : Nat → Int32) (i : Nat) (hi : i < 3) (hz : Z i ≤ 60) (j : Nat) (hj : j < Z i) (nm : Nat) (hnm : nm < 10) : pw_Mm l yX3_lay wsX3_lay ({ frames := 2, cells := 0, slots := 0, locals := 47 } : Room) D cI cP cR [.ref x, .int (nI i), .int (nI j), .int (nI nm)] ([(x, .inr (3, [.ref t, .ref z, .int (nI md), .ref rf, .ref rw, .ref pl, .ref hd, .ref ha, .ref lo, .ref ol, .ref as_])), (t, .inl (cI, 192, .inl (flT T))), (z, .inl (cI, 3, .inl (zI Z))), (rf, .inl (cI, 4, .inl (RF))), (rw, .inl (cI, 4, .inl (R))), (pl, .inl (cI, 4, .inl (P))), (hd, .inl (cI, 4, .inl (Hd))), (ha, .inl (cI, 4, .inl (HA))), (lo, .inl (cI, 4, .inl (Lo))), (ol, .inl (cI, 4, .inl (Ol))), (as_, .inl (cI, 64, .inl (AS)))]) (fun v w => v = some (.int (T i j)) ∧ w = [(x, .inr (3, [.ref t, .ref z, .int (nI (md + 1)), .ref rf, .ref rw, .ref pl, .ref hd, .ref ha, .ref lo, .ref ol, .ref as_])), (t, .inl (cI, 192, .inl (flT (upR T i (upd (T i) j (nI ((md * 10) + nm))))))), (z, .inl (cI, 3, .inl (zI Z))), (rf, .inl (cI, 4, .inl (RF))), (rw, .inl (cI, 4, .inl (R))), (pl, .inl (cI, 4, .inl (P))), (hd, .inl (cI, 4, .inl (Hd))), (ha, .inl (cI, 4, .inl (HA))), (lo, .inl (cI, 4, .inl (Lo))), (ol, .inl (cI, 4, .inl (Ol))), (as_, .inl (cI, 64, .inl (AS)))]) := by
  refine pw_ofm (cc := cX3_lay) (maxL := 5) (ret := (some .int)) (own := RX3) (by decide +kernel) rfl rfl (Nat.le_of_ble_eq_true rfl) ?_
  intro p_ e_ s m bel meth cd A hE hK hP hD hA hS ls hl
  obtain ⟨hx, hb, hr, hml, hown, hts, hlocks⟩ := hE
  have hNW := hK.2
  have hl : lv_has ls 5 [(0, .ref x), (1, .int (nI i)), (2, .int (nI j)), (3, .int (nI nm))] := hl
  refine lv_iload_n hx hb dX3_lay_0 rfl (lv_at hl 1 rfl) ?_
  -- m_isRow_t
  refine pw_cSp (As := [.int (nI i)]) (rest := []) ⟨hx, hb, hml, hown, hts⟩ (m_isRow_t l D cI cP cR i (by omega)) (va_cwS 1 hts gX3_lay_X3_isRow rfl rfl rfl (by decide +kernel) ⟨Nat.le_of_ble_eq_true rfl, Nat.le_of_ble_eq_true rfl⟩) hK rfl hl.1 rfl (Nat.le_of_ble_eq_true rfl) dX3_lay_1 ⟨Nat.zero_le _, Nat.zero_le _⟩ ?_
  refine lv_if_eq (tgt := 14) hx hb dX3_lay_4 (by decide) (fun c => absurd c (by decide)) (fun c => ?_)
  refine lv_iload_n hx hb dX3_lay_7 rfl (lv_at hl 3 rfl) ?_
  -- m_isName_t
  refine pw_cSp (As := [.int (nI nm)]) (rest := []) ⟨hx, hb, hml, hown, hts⟩ (m_isName_t l D cI cP cR nm (by omega)) (va_cwS 1 hts gX3_lay_X3_isName rfl rfl rfl (by decide +kernel) ⟨Nat.le_of_ble_eq_true rfl, Nat.le_of_ble_eq_true rfl⟩) hK rfl hl.1 rfl (Nat.le_of_ble_eq_true rfl) dX3_lay_8 ⟨Nat.zero_le _, Nat.zero_le _⟩ ?_
  refine lv_if_ne (tgt := 16) hx hb dX3_lay_11 (by decide) (fun c => ?_) (fun c => absurd c (by decide))
  refine lv_iload_n hx hb dX3_lay_16 rfl (lv_at hl 2 rfl) ?_
  refine lv_iconst (v := nI 0) hx hb dX3_lay_17 (by decide) ?_
  refine lv_aload_n hx hb dX3_lay_18 rfl (lv_at hl 0 rfl) ?_
  refine va_get (D := D) (ci := 3) (v := .ref z) (C := RX3) (T := TX3) (N := 11) hx hb hts hi_X3_lay_3 hown hK.1 hP 0 rfl rfl 1 (by decide) (hts _ hf_X3_lay_13) (fun _ h9 => h9) rfl dX3_lay_19 ?_
  refine lv_iload_n hx hb dX3_lay_22 rfl (lv_at hl 1 rfl) ?_
  refine pw_iald hx hb hK.1 hP 2 0 rfl rfl (by decide) (by omega) dX3_lay_23 ?_
  refine pw_top (y := nI (Z i)) rfl ?_
  refine lv_iconst (v := nI 1) hx hb dX3_lay_24 (by decide) ?_
  refine pw_isub hx hb (by omega) dX3_lay_25 ?_
  -- m_in_t
  refine pw_cSp (As := [.int (nI j), .int (nI 0), .int (nI ((Z i) - 1))]) (rest := []) ⟨hx, hb, hml, hown, hts⟩ (m_in_t l D cI cP cR (nI j) (nI 0) (nI ((Z i) - 1)) (⟨pw_ge0 (by omega), (pw_leN (by omega) (by omega)).mpr (by omega)⟩)) (va_cwS 3 hts gX3_lay_X3_in rfl rfl rfl (by decide +kernel) ⟨Nat.le_of_ble_eq_true rfl, Nat.le_of_ble_eq_true rfl⟩) hK rfl hl.1 rfl (Nat.le_of_ble_eq_true rfl) dX3_lay_26 ⟨Nat.zero_le _, Nat.zero_le _⟩ ?_
  refine lv_if_ne (tgt := 40) hx hb dX3_lay_29 (by decide) (fun c => ?_) (fun c => absurd c (by decide))
  refine lv_aload_n hx hb dX3_lay_40 rfl (lv_at hl 0 rfl) ?_
  refine lv_iload_n hx hb dX3_lay_41 rfl (lv_at hl 1 rfl) ?_
  refine lv_iload_n hx hb dX3_lay_42 rfl (lv_at hl 2 rfl) ?_
  -- m_thing
  refine pw_cVp (As := [.int (nI i), .int (nI j)]) (rest := []) (wc := [(x, .inr (3, [.ref t, .ref z, .int (nI md), .ref rf, .ref rw, .ref pl, .ref hd, .ref ha, .ref lo, .ref ol, .ref as_])), (t, .inl (cI, 192, .inl (flT T)))]) ⟨hx, hb, hml, hown, hts⟩ (m_thing l D cI cP cR x t z rf rw pl hd ha lo ol as_ md T i j (by omega) (by omega)) (cwV 2 hts gX3_lay_X3_thing rfl rfl rfl (by decide +kernel) ⟨Nat.le_of_ble_eq_true rfl, Nat.le_of_ble_eq_true rfl⟩) hK hP hD [0, 1] rfl (by decide) 0 rfl rfl rfl rfl hl.1 rfl (Nat.le_of_ble_eq_true rfl) dX3_lay_43 ⟨Nat.zero_le _, Nat.zero_le _⟩ ?_
  refine lv_istore (lv' := [(4, .int (T i j)), (0, .ref x), (1, .int (nI i)), (2, .int (nI j)), (3, .int (nI nm))]) hx hb dX3_lay_46 hl (by decide) rfl (fun ls hl => ?_)
  refine lv_aload_n hx hb dX3_lay_48 rfl (lv_at hl 1 rfl) ?_
  refine va_get (D := D) (ci := 3) (v := .ref t) (C := RX3) (T := TX3) (N := 11) hx hb hts hi_X3_lay_3 hown hK.1 hP 0 rfl rfl 0 (by decide) (hts _ hf_X3_lay_7) (fun _ h9 => h9) rfl dX3_lay_49 ?_
  refine lv_bipush (v := nI 64) hx hb dX3_lay_52 (by decide) ?_
  refine lv_iload_n hx hb dX3_lay_54 rfl (lv_at hl 2 rfl) ?_
  refine pw_imul hx hb dX3_lay_55 ?_
  refine lv_iload_n hx hb dX3_lay_56 rfl (lv_at hl 3 rfl) ?_
  refine pw_iadd hx hb dX3_lay_57 ?_
  refine lv_aload_n hx hb dX3_lay_58 rfl (lv_at hl 1 rfl) ?_
  refine lv_iload_n hx hb dX3_lay_59 rfl (lv_at hl 4 rfl) ?_
  -- m_make
  refine pw_cVm (As := [.int (nI nm)]) (rest := [.int (nI ((64 * i) + j)), .ref t]) (wc := [(x, .inr (3, [.ref t, .ref z, .int (nI md), .ref rf, .ref rw, .ref pl, .ref hd, .ref ha, .ref lo, .ref ol, .ref as_]))]) (wr := [(t, .inl (cI, 192, .inl (flT T))), (z, .inl (cI, 3, .inl (zI Z))), (rf, .inl (cI, 4, .inl (RF))), (rw, .inl (cI, 4, .inl (R))), (pl, .inl (cI, 4, .inl (P))), (hd, .inl (cI, 4, .inl (Hd))), (ha, .inl (cI, 4, .inl (HA))), (lo, .inl (cI, 4, .inl (Lo))), (ol, .inl (cI, 4, .inl (Ol))), (as_, .inl (cI, 64, .inl (AS)))]) ⟨hx, hb, hml, hown, hts⟩ (m_make l D cI cP cR x t z rf rw pl hd ha lo ol as_ md nm) (cwV 1 hts gX3_lay_X3_make rfl rfl rfl (by decide +kernel) ⟨Nat.le_of_ble_eq_true rfl, Nat.le_of_ble_eq_true rfl⟩) hK hP hD hS hA [0] [1, 2, 3, 4, 5, 6, 7, 8, 9, 10] rfl rfl (by decide) (by decide) (by decide) 0 rfl rfl rfl rfl hl.1 rfl (Nat.le_of_ble_eq_true rfl) dX3_lay_60 ⟨Nat.zero_le _, Nat.zero_le _⟩ (fun v1 w1 H locs hq hP hD hS => ?_)
  rcases hq with ⟨rfl, rfl⟩
  have hP : va_P D vwCl ([(t, .inl (cI, 192, .inl (flT T))), (z, .inl (cI, 3, .inl (zI Z))), (rf, .inl (cI, 4, .inl (RF))), (rw, .inl (cI, 4, .inl (R))), (pl, .inl (cI, 4, .inl (P))), (hd, .inl (cI, 4, .inl (Hd))), (ha, .inl (cI, 4, .inl (HA))), (lo, .inl (cI, 4, .inl (Lo))), (ol, .inl (cI, 4, .inl (Ol))), (as_, .inl (cI, 64, .inl (AS))), (x, .inr (3, [.ref t, .ref z, .int (nI (md + 1)), .ref rf, .ref rw, .ref pl, .ref hd, .ref ha, .ref lo, .ref ol, .ref as_]))]) H := hP
  have hD : va_D A ([(t, .inl (cI, 192, .inl (flT T))), (z, .inl (cI, 3, .inl (zI Z))), (rf, .inl (cI, 4, .inl (RF))), (rw, .inl (cI, 4, .inl (R))), (pl, .inl (cI, 4, .inl (P))), (hd, .inl (cI, 4, .inl (Hd))), (ha, .inl (cI, 4, .inl (HA))), (lo, .inl (cI, 4, .inl (Lo))), (ol, .inl (cI, 4, .inl (Ol))), (as_, .inl (cI, 64, .inl (AS))), (x, .inr (3, [.ref t, .ref z, .int (nI (md + 1)), .ref rf, .ref rw, .ref pl, .ref hd, .ref ha, .ref lo, .ref ol, .ref as_]))]) := hD
  refine W.eq (g2 := F0 m 63 ls [.int (nI ((md * 10) + nm)), .int (nI ((64 * i) + j)), .ref t]) rfl ?_
  refine pw_iast hx hb hK.1 hP hD hS 0 0 rfl rfl (by decide) (by omega) dX3_lay_63 (fun H locs hP hD hS => ?_)
  have hP : va_P D vwCl ([(t, .inl (cI, 192, .inl (upd (flT T) ((64 * i) + j) (nI ((md * 10) + nm))))), (z, .inl (cI, 3, .inl (zI Z))), (rf, .inl (cI, 4, .inl (RF))), (rw, .inl (cI, 4, .inl (R))), (pl, .inl (cI, 4, .inl (P))), (hd, .inl (cI, 4, .inl (Hd))), (ha, .inl (cI, 4, .inl (HA))), (lo, .inl (cI, 4, .inl (Lo))), (ol, .inl (cI, 4, .inl (Ol))), (as_, .inl (cI, 64, .inl (AS))), (x, .inr (3, [.ref t, .ref z, .int (nI (md + 1)), .ref rf, .ref rw, .ref pl, .ref hd, .ref ha, .ref lo, .ref ol, .ref as_]))]) H := hP
  have hD : va_D A ([(t, .inl (cI, 192, .inl (upd (flT T) ((64 * i) + j) (nI ((md * 10) + nm))))), (z, .inl (cI, 3, .inl (zI Z))), (rf, .inl (cI, 4, .inl (RF))), (rw, .inl (cI, 4, .inl (R))), (pl, .inl (cI, 4, .inl (P))), (hd, .inl (cI, 4, .inl (Hd))), (ha, .inl (cI, 4, .inl (HA))), (lo, .inl (cI, 4, .inl (Lo))), (ol, .inl (cI, 4, .inl (Ol))), (as_, .inl (cI, 64, .inl (AS))), (x, .inr (3, [.ref t, .ref z, .int (nI (md + 1)), .ref rf, .ref rw, .ref pl, .ref hd, .ref ha, .ref lo, .ref ol, .ref as_]))]) := hD
  rw [flT_upd _ _ _ _ (by omega)] at hP hD
  refine lv_iload hx hb dX3_lay_64 (lv_at hl 0 rfl) ?_
  have hP := hP.sub (ws' := [(x, .inr (3, [.ref t, .ref z, .int (nI (md + 1)), .ref rf, .ref rw, .ref pl, .ref hd, .ref ha, .ref lo, .ref ol, .ref as_])), (t, .inl (cI, 192, .inl (flT (upR T i (upd (T i) j (nI ((md * 10) + nm))))))), (z, .inl (cI, 3, .inl (zI Z))), (rf, .inl (cI, 4, .inl (RF))), (rw, .inl (cI, 4, .inl (R))), (pl, .inl (cI, 4, .inl (P))), (hd, .inl (cI, 4, .inl (Hd))), (ha, .inl (cI, 4, .inl (HA))), (lo, .inl (cI, 4, .inl (Lo))), (ol, .inl (cI, 4, .inl (Ol))), (as_, .inl (cI, 64, .inl (AS)))]) [10, 0, 1, 2, 3, 4, 5, 6, 7, 8, 9] rfl
  have hD := hD.sub (ws' := [(x, .inr (3, [.ref t, .ref z, .int (nI (md + 1)), .ref rf, .ref rw, .ref pl, .ref hd, .ref ha, .ref lo, .ref ol, .ref as_])), (t, .inl (cI, 192, .inl (flT (upR T i (upd (T i) j (nI ((md * 10) + nm))))))), (z, .inl (cI, 3, .inl (zI Z))), (rf, .inl (cI, 4, .inl (RF))), (rw, .inl (cI, 4, .inl (R))), (pl, .inl (cI, 4, .inl (P))), (hd, .inl (cI, 4, .inl (Hd))), (ha, .inl (cI, 4, .inl (HA))), (lo, .inl (cI, 4, .inl (Lo))), (ol, .inl (cI, 4, .inl (Ol))), (as_, .inl (cI, 64, .inl (AS)))]) [10, 0, 1, 2, 3, 4, 5, 6, 7, 8, 9] (by decide) rfl
  exact pw_iret hx hb hr (rfl) hlocks dX3_lay_66 hS hP hD (⟨rfl, rfl⟩)
theorem hi_X3_insert_3 : ∀ w ∈ u_ws RX3 TX3 11, w ∈ wsX3_insert := by decide +kernel
theorem hf_X3_insert_13 : Cond.fieldLink RX3 13 "PegrowModel" "sizes" "[I" ∈ wsX3_insert := by decide +kernel
set_option maxHeartbeats 4000000 in
set_option maxRecDepth 100000 in
theorem n_insert_f (l : Launch) (D : va_G) (cI cP cR : ClassId) (x t z rf rw pl hd ha lo ol as_ md : Nat) (T : Nat → Nat → Int32) (Z : Nat → Nat) (RF R P Hd HA Lo Ol AS : Nat → Int32) (i : Nat) (hi : i < 3) (hz : Z i ≤ 60) (q : Int32) (nm : Nat) (hnm : nm < 10) (hf : Z i = 60) : pw_Mp l yX3_insert wsX3_insert ({ frames := 2, cells := 0, slots := 0, locals := 47 } : Room) D cI cP cR [.ref x, .int (nI i), .int (q), .int (nI nm)] ([(x, .inr (3, [.ref t, .ref z, .int (nI md), .ref rf, .ref rw, .ref pl, .ref hd, .ref ha, .ref lo, .ref ol, .ref as_])), (t, .inl (cI, 192, .inl (flT T))), (z, .inl (cI, 3, .inl (zI Z))), (rf, .inl (cI, 4, .inl (RF))), (rw, .inl (cI, 4, .inl (R))), (pl, .inl (cI, 4, .inl (P))), (hd, .inl (cI, 4, .inl (Hd))), (ha, .inl (cI, 4, .inl (HA))), (lo, .inl (cI, 4, .inl (Lo))), (ol, .inl (cI, 4, .inl (Ol))), (as_, .inl (cI, 64, .inl (AS)))]) (.int (-3)) := by
  refine pw_ofp (cc := cX3_insert) (maxL := 4) (ret := (some .int)) (own := RX3) (by decide +kernel) rfl rfl (Nat.le_of_ble_eq_true rfl) ?_
  intro p_ e_ s m bel meth cd hE hK hP hD ls hl
  obtain ⟨hx, hb, hr, hml, hown, hts, hlocks⟩ := hE
  have hNW := hK.2
  have hl : lv_has ls 4 [(0, .ref x), (1, .int (nI i)), (2, .int (q)), (3, .int (nI nm))] := hl
  refine lv_iload_n hx hb dX3_insert_0 rfl (lv_at hl 1 rfl) ?_
  -- m_isRow_t
  refine pw_cSp (As := [.int (nI i)]) (rest := []) ⟨hx, hb, hml, hown, hts⟩ (m_isRow_t l D cI cP cR i (by omega)) (va_cwS 1 hts gX3_insert_X3_isRow rfl rfl rfl (by decide +kernel) ⟨Nat.le_of_ble_eq_true rfl, Nat.le_of_ble_eq_true rfl⟩) hK rfl hl.1 rfl (Nat.le_of_ble_eq_true rfl) dX3_insert_1 ⟨Nat.zero_le _, Nat.zero_le _⟩ ?_
  refine lv_if_eq (tgt := 14) hx hb dX3_insert_4 (by decide) (fun c => absurd c (by decide)) (fun c => ?_)
  refine lv_iload_n hx hb dX3_insert_7 rfl (lv_at hl 3 rfl) ?_
  -- m_isName_t
  refine pw_cSp (As := [.int (nI nm)]) (rest := []) ⟨hx, hb, hml, hown, hts⟩ (m_isName_t l D cI cP cR nm (by omega)) (va_cwS 1 hts gX3_insert_X3_isName rfl rfl rfl (by decide +kernel) ⟨Nat.le_of_ble_eq_true rfl, Nat.le_of_ble_eq_true rfl⟩) hK rfl hl.1 rfl (Nat.le_of_ble_eq_true rfl) dX3_insert_8 ⟨Nat.zero_le _, Nat.zero_le _⟩ ?_
  refine lv_if_ne (tgt := 16) hx hb dX3_insert_11 (by decide) (fun c => ?_) (fun c => absurd c (by decide))
  refine lv_aload_n hx hb dX3_insert_16 rfl (lv_at hl 0 rfl) ?_
  refine va_get (D := D) (ci := 3) (v := .ref z) (C := RX3) (T := TX3) (N := 11) hx hb hts hi_X3_insert_3 hown hK.1 hP 0 rfl rfl 1 (by decide) (hts _ hf_X3_insert_13) (fun _ h9 => h9) rfl dX3_insert_17 ?_
  refine lv_iload_n hx hb dX3_insert_20 rfl (lv_at hl 1 rfl) ?_
  refine pw_iald hx hb hK.1 hP 2 0 rfl rfl (by decide) (by omega) dX3_insert_21 ?_
  refine pw_top (y := nI (Z i)) rfl ?_
  refine lv_bipush (v := nI 60) hx hb dX3_insert_22 (by decide) ?_
  refine pw_icmp_ne (tgt := 30) hx hb (by omega) (by omega) dX3_insert_24 (by decide) (fun c_1 => ?_) (fun c_1 => ?_)
  · exact absurd hf c_1
  · have _h := c_1
    refine lv_bipush (v := -3) hx hb dX3_insert_27 (by decide) ?_
    exact pw_piret hx hb hr (rfl) hlocks dX3_insert_29 (rfl)
set_option maxHeartbeats 4000000 in
set_option maxRecDepth 100000 in
theorem n_insert_p (l : Launch) (D : va_G) (cI cP cR : ClassId) (x t z rf rw pl hd ha lo ol as_ md : Nat) (T : Nat → Nat → Int32) (Z : Nat → Nat) (RF R P Hd HA Lo Ol AS : Nat → Int32) (i : Nat) (hi : i < 3) (hz : Z i ≤ 60) (q : Int32) (hq : ¬ (0 ≤ q ∧ q ≤ nI (Z i))) (nm : Nat) (hnm : nm < 10) (hf : Z i < 60) : pw_Mm l yX3_insert wsX3_insert ({ frames := 2, cells := 0, slots := 0, locals := 47 } : Room) D cI cP cR [.ref x, .int (nI i), .int (q), .int (nI nm)] ([(x, .inr (3, [.ref t, .ref z, .int (nI md), .ref rf, .ref rw, .ref pl, .ref hd, .ref ha, .ref lo, .ref ol, .ref as_])), (t, .inl (cI, 192, .inl (flT T))), (z, .inl (cI, 3, .inl (zI Z))), (rf, .inl (cI, 4, .inl (RF))), (rw, .inl (cI, 4, .inl (R))), (pl, .inl (cI, 4, .inl (P))), (hd, .inl (cI, 4, .inl (Hd))), (ha, .inl (cI, 4, .inl (HA))), (lo, .inl (cI, 4, .inl (Lo))), (ol, .inl (cI, 4, .inl (Ol))), (as_, .inl (cI, 64, .inl (AS)))]) (fun v w => v = some (.int (-5)) ∧ w = [(x, .inr (3, [.ref t, .ref z, .int (nI md), .ref rf, .ref rw, .ref pl, .ref hd, .ref ha, .ref lo, .ref ol, .ref as_])), (t, .inl (cI, 192, .inl (flT T))), (z, .inl (cI, 3, .inl (zI Z))), (rf, .inl (cI, 4, .inl (upd RF 1 (RF 1 + nI 1)))), (rw, .inl (cI, 4, .inl (R))), (pl, .inl (cI, 4, .inl (P))), (hd, .inl (cI, 4, .inl (Hd))), (ha, .inl (cI, 4, .inl (HA))), (lo, .inl (cI, 4, .inl (Lo))), (ol, .inl (cI, 4, .inl (Ol))), (as_, .inl (cI, 64, .inl (AS)))]) := by
  refine pw_ofm (cc := cX3_insert) (maxL := 4) (ret := (some .int)) (own := RX3) (by decide +kernel) rfl rfl (Nat.le_of_ble_eq_true rfl) ?_
  intro p_ e_ s m bel meth cd A hE hK hP hD hA hS ls hl
  obtain ⟨hx, hb, hr, hml, hown, hts, hlocks⟩ := hE
  have hNW := hK.2
  have hl : lv_has ls 4 [(0, .ref x), (1, .int (nI i)), (2, .int (q)), (3, .int (nI nm))] := hl
  refine lv_iload_n hx hb dX3_insert_0 rfl (lv_at hl 1 rfl) ?_
  -- m_isRow_t
  refine pw_cSp (As := [.int (nI i)]) (rest := []) ⟨hx, hb, hml, hown, hts⟩ (m_isRow_t l D cI cP cR i (by omega)) (va_cwS 1 hts gX3_insert_X3_isRow rfl rfl rfl (by decide +kernel) ⟨Nat.le_of_ble_eq_true rfl, Nat.le_of_ble_eq_true rfl⟩) hK rfl hl.1 rfl (Nat.le_of_ble_eq_true rfl) dX3_insert_1 ⟨Nat.zero_le _, Nat.zero_le _⟩ ?_
  refine lv_if_eq (tgt := 14) hx hb dX3_insert_4 (by decide) (fun c => absurd c (by decide)) (fun c => ?_)
  refine lv_iload_n hx hb dX3_insert_7 rfl (lv_at hl 3 rfl) ?_
  -- m_isName_t
  refine pw_cSp (As := [.int (nI nm)]) (rest := []) ⟨hx, hb, hml, hown, hts⟩ (m_isName_t l D cI cP cR nm (by omega)) (va_cwS 1 hts gX3_insert_X3_isName rfl rfl rfl (by decide +kernel) ⟨Nat.le_of_ble_eq_true rfl, Nat.le_of_ble_eq_true rfl⟩) hK rfl hl.1 rfl (Nat.le_of_ble_eq_true rfl) dX3_insert_8 ⟨Nat.zero_le _, Nat.zero_le _⟩ ?_
  refine lv_if_ne (tgt := 16) hx hb dX3_insert_11 (by decide) (fun c => ?_) (fun c => absurd c (by decide))
  refine lv_aload_n hx hb dX3_insert_16 rfl (lv_at hl 0 rfl) ?_
  refine va_get (D := D) (ci := 3) (v := .ref z) (C := RX3) (T := TX3) (N := 11) hx hb hts hi_X3_insert_3 hown hK.1 hP 0 rfl rfl 1 (by decide) (hts _ hf_X3_insert_13) (fun _ h9 => h9) rfl dX3_insert_17 ?_
  refine lv_iload_n hx hb dX3_insert_20 rfl (lv_at hl 1 rfl) ?_
  refine pw_iald hx hb hK.1 hP 2 0 rfl rfl (by decide) (by omega) dX3_insert_21 ?_
  refine pw_top (y := nI (Z i)) rfl ?_
  refine lv_bipush (v := nI 60) hx hb dX3_insert_22 (by decide) ?_
  refine pw_icmp_ne (tgt := 30) hx hb (by omega) (by omega) dX3_insert_24 (by decide) (fun c_1 => ?_) (fun c_1 => ?_)
  · have _h := c_1
    refine lv_iload_n hx hb dX3_insert_30 rfl (lv_at hl 2 rfl) ?_
    refine lv_iconst (v := nI 0) hx hb dX3_insert_31 (by decide) ?_
    refine lv_aload_n hx hb dX3_insert_32 rfl (lv_at hl 0 rfl) ?_
    refine va_get (D := D) (ci := 3) (v := .ref z) (C := RX3) (T := TX3) (N := 11) hx hb hts hi_X3_insert_3 hown hK.1 hP 0 rfl rfl 1 (by decide) (hts _ hf_X3_insert_13) (fun _ h9 => h9) rfl dX3_insert_33 ?_
    refine lv_iload_n hx hb dX3_insert_36 rfl (lv_at hl 1 rfl) ?_
    refine pw_iald hx hb hK.1 hP 2 0 rfl rfl (by decide) (by omega) dX3_insert_37 ?_
    refine pw_top (y := nI (Z i)) rfl ?_
    -- m_in_f
    refine pw_cSp (As := [.int (q), .int (nI 0), .int (nI (Z i))]) (rest := []) ⟨hx, hb, hml, hown, hts⟩ (m_in_f l D cI cP cR q (nI 0) (nI (Z i)) (hq)) (va_cwS 3 hts gX3_insert_X3_in rfl rfl rfl (by decide +kernel) ⟨Nat.le_of_ble_eq_true rfl, Nat.le_of_ble_eq_true rfl⟩) hK rfl hl.1 rfl (Nat.le_of_ble_eq_true rfl) dX3_insert_38 ⟨Nat.zero_le _, Nat.zero_le _⟩ ?_
    refine lv_if_ne (tgt := 52) hx hb dX3_insert_41 (by decide) (fun c => absurd c (by decide)) (fun c => ?_)
    refine lv_aload_n hx hb dX3_insert_44 rfl (lv_at hl 0 rfl) ?_
    refine lv_iconst (v := nI 1) hx hb dX3_insert_45 (by decide) ?_
    refine lv_bipush (v := -5) hx hb dX3_insert_46 (by decide) ?_
    -- m_refuse
    refine pw_cVm (As := [.int (nI 1), .int (-5)]) (rest := []) (wc := [(x, .inr (3, [.ref t, .ref z, .int (nI md), .ref rf, .ref rw, .ref pl, .ref hd, .ref ha, .ref lo, .ref ol, .ref as_])), (rf, .inl (cI, 4, .inl (RF)))]) (wr := [(t, .inl (cI, 192, .inl (flT T))), (z, .inl (cI, 3, .inl (zI Z))), (rw, .inl (cI, 4, .inl (R))), (pl, .inl (cI, 4, .inl (P))), (hd, .inl (cI, 4, .inl (Hd))), (ha, .inl (cI, 4, .inl (HA))), (lo, .inl (cI, 4, .inl (Lo))), (ol, .inl (cI, 4, .inl (Ol))), (as_, .inl (cI, 64, .inl (AS)))]) ⟨hx, hb, hml, hown, hts⟩ (m_refuse l D cI cP cR x t z rf rw pl hd ha lo ol as_ md RF 1 (-5) (by decide)) (cwV 2 hts gX3_insert_X3_refuse rfl rfl rfl (by decide +kernel) ⟨Nat.le_of_ble_eq_true rfl, Nat.le_of_ble_eq_true rfl⟩) hK hP hD hS hA [0, 3] [1, 2, 4, 5, 6, 7, 8, 9, 10] rfl rfl (by decide) (by decide) (by decide) 0 rfl rfl rfl rfl hl.1 rfl (Nat.le_of_ble_eq_true rfl) dX3_insert_48 ⟨Nat.zero_le _, Nat.zero_le _⟩ (fun v1 w1 H locs hq hP hD hS => ?_)
    rcases hq with ⟨rfl, rfl⟩
    have hP : va_P D vwCl ([(t, .inl (cI, 192, .inl (flT T))), (z, .inl (cI, 3, .inl (zI Z))), (rw, .inl (cI, 4, .inl (R))), (pl, .inl (cI, 4, .inl (P))), (hd, .inl (cI, 4, .inl (Hd))), (ha, .inl (cI, 4, .inl (HA))), (lo, .inl (cI, 4, .inl (Lo))), (ol, .inl (cI, 4, .inl (Ol))), (as_, .inl (cI, 64, .inl (AS))), (x, .inr (3, [.ref t, .ref z, .int (nI md), .ref rf, .ref rw, .ref pl, .ref hd, .ref ha, .ref lo, .ref ol, .ref as_])), (rf, .inl (cI, 4, .inl (upd RF 1 (RF 1 + nI 1))))]) H := hP
    have hD : va_D A ([(t, .inl (cI, 192, .inl (flT T))), (z, .inl (cI, 3, .inl (zI Z))), (rw, .inl (cI, 4, .inl (R))), (pl, .inl (cI, 4, .inl (P))), (hd, .inl (cI, 4, .inl (Hd))), (ha, .inl (cI, 4, .inl (HA))), (lo, .inl (cI, 4, .inl (Lo))), (ol, .inl (cI, 4, .inl (Ol))), (as_, .inl (cI, 64, .inl (AS))), (x, .inr (3, [.ref t, .ref z, .int (nI md), .ref rf, .ref rw, .ref pl, .ref hd, .ref ha, .ref lo, .ref ol, .ref as_])), (rf, .inl (cI, 4, .inl (upd RF 1 (RF 1 + nI 1))))]) := hD
    refine W.eq (g2 := F0 m 51 ls [.int (-5)]) rfl ?_
    have hP := hP.sub (ws' := [(x, .inr (3, [.ref t, .ref z, .int (nI md), .ref rf, .ref rw, .ref pl, .ref hd, .ref ha, .ref lo, .ref ol, .ref as_])), (t, .inl (cI, 192, .inl (flT T))), (z, .inl (cI, 3, .inl (zI Z))), (rf, .inl (cI, 4, .inl (upd RF 1 (RF 1 + nI 1)))), (rw, .inl (cI, 4, .inl (R))), (pl, .inl (cI, 4, .inl (P))), (hd, .inl (cI, 4, .inl (Hd))), (ha, .inl (cI, 4, .inl (HA))), (lo, .inl (cI, 4, .inl (Lo))), (ol, .inl (cI, 4, .inl (Ol))), (as_, .inl (cI, 64, .inl (AS)))]) [9, 0, 1, 10, 2, 3, 4, 5, 6, 7, 8] rfl
    have hD := hD.sub (ws' := [(x, .inr (3, [.ref t, .ref z, .int (nI md), .ref rf, .ref rw, .ref pl, .ref hd, .ref ha, .ref lo, .ref ol, .ref as_])), (t, .inl (cI, 192, .inl (flT T))), (z, .inl (cI, 3, .inl (zI Z))), (rf, .inl (cI, 4, .inl (upd RF 1 (RF 1 + nI 1)))), (rw, .inl (cI, 4, .inl (R))), (pl, .inl (cI, 4, .inl (P))), (hd, .inl (cI, 4, .inl (Hd))), (ha, .inl (cI, 4, .inl (HA))), (lo, .inl (cI, 4, .inl (Lo))), (ol, .inl (cI, 4, .inl (Ol))), (as_, .inl (cI, 64, .inl (AS)))]) [9, 0, 1, 10, 2, 3, 4, 5, 6, 7, 8] (by decide) rfl
    exact pw_iret hx hb hr (rfl) hlocks dX3_insert_51 hS hP hD (⟨rfl, rfl⟩)
  · exact absurd c_1 (by omega)
set_option maxHeartbeats 4000000 in
set_option maxRecDepth 100000 in
theorem n_insert (l : Launch) (D : va_G) (cI cP cR : ClassId) (x t z rf rw pl hd ha lo ol as_ md : Nat) (T : Nat → Nat → Int32) (Z : Nat → Nat) (RF R P Hd HA Lo Ol AS : Nat → Int32) (i : Nat) (hi : i < 3) (hz : Z i ≤ 60) (j : Nat) (hj : j ≤ Z i) (nm : Nat) (hnm : nm < 10) (hf : Z i < 60) : pw_Mm l yX3_insert wsX3_insert ({ frames := 2, cells := 0, slots := 0, locals := 47 } : Room) D cI cP cR [.ref x, .int (nI i), .int (nI j), .int (nI nm)] ([(x, .inr (3, [.ref t, .ref z, .int (nI md), .ref rf, .ref rw, .ref pl, .ref hd, .ref ha, .ref lo, .ref ol, .ref as_])), (t, .inl (cI, 192, .inl (flT T))), (z, .inl (cI, 3, .inl (zI Z))), (rf, .inl (cI, 4, .inl (RF))), (rw, .inl (cI, 4, .inl (R))), (pl, .inl (cI, 4, .inl (P))), (hd, .inl (cI, 4, .inl (Hd))), (ha, .inl (cI, 4, .inl (HA))), (lo, .inl (cI, 4, .inl (Lo))), (ol, .inl (cI, 4, .inl (Ol))), (as_, .inl (cI, 64, .inl (AS)))]) (fun v w => v = some (.int (nI (Z i + 1))) ∧ w = [(x, .inr (3, [.ref t, .ref z, .int (nI (md + 1)), .ref rf, .ref rw, .ref pl, .ref hd, .ref ha, .ref lo, .ref ol, .ref as_])), (t, .inl (cI, 192, .inl (flT (upR T i (upd (opn (T i) j 1 (Z i)) j (nI ((md * 10) + nm))))))), (z, .inl (cI, 3, .inl (zI (updN Z i (Z i + 1))))), (rf, .inl (cI, 4, .inl (RF))), (rw, .inl (cI, 4, .inl (R))), (pl, .inl (cI, 4, .inl (P))), (hd, .inl (cI, 4, .inl (Hd))), (ha, .inl (cI, 4, .inl (HA))), (lo, .inl (cI, 4, .inl (Lo))), (ol, .inl (cI, 4, .inl (agF R Ol (nI i) (-1)))), (as_, .inl (cI, 64, .inl (AS)))]) := by
  refine pw_ofm (cc := cX3_insert) (maxL := 4) (ret := (some .int)) (own := RX3) (by decide +kernel) rfl rfl (Nat.le_of_ble_eq_true rfl) ?_
  intro p_ e_ s m bel meth cd A hE hK hP hD hA hS ls hl
  obtain ⟨hx, hb, hr, hml, hown, hts, hlocks⟩ := hE
  have hNW := hK.2
  have hl : lv_has ls 4 [(0, .ref x), (1, .int (nI i)), (2, .int (nI j)), (3, .int (nI nm))] := hl
  refine lv_iload_n hx hb dX3_insert_0 rfl (lv_at hl 1 rfl) ?_
  -- m_isRow_t
  refine pw_cSp (As := [.int (nI i)]) (rest := []) ⟨hx, hb, hml, hown, hts⟩ (m_isRow_t l D cI cP cR i (by omega)) (va_cwS 1 hts gX3_insert_X3_isRow rfl rfl rfl (by decide +kernel) ⟨Nat.le_of_ble_eq_true rfl, Nat.le_of_ble_eq_true rfl⟩) hK rfl hl.1 rfl (Nat.le_of_ble_eq_true rfl) dX3_insert_1 ⟨Nat.zero_le _, Nat.zero_le _⟩ ?_
  refine lv_if_eq (tgt := 14) hx hb dX3_insert_4 (by decide) (fun c => absurd c (by decide)) (fun c => ?_)
  refine lv_iload_n hx hb dX3_insert_7 rfl (lv_at hl 3 rfl) ?_
  -- m_isName_t
  refine pw_cSp (As := [.int (nI nm)]) (rest := []) ⟨hx, hb, hml, hown, hts⟩ (m_isName_t l D cI cP cR nm (by omega)) (va_cwS 1 hts gX3_insert_X3_isName rfl rfl rfl (by decide +kernel) ⟨Nat.le_of_ble_eq_true rfl, Nat.le_of_ble_eq_true rfl⟩) hK rfl hl.1 rfl (Nat.le_of_ble_eq_true rfl) dX3_insert_8 ⟨Nat.zero_le _, Nat.zero_le _⟩ ?_
  refine lv_if_ne (tgt := 16) hx hb dX3_insert_11 (by decide) (fun c => ?_) (fun c => absurd c (by decide))
  refine lv_aload_n hx hb dX3_insert_16 rfl (lv_at hl 0 rfl) ?_
  refine va_get (D := D) (ci := 3) (v := .ref z) (C := RX3) (T := TX3) (N := 11) hx hb hts hi_X3_insert_3 hown hK.1 hP 0 rfl rfl 1 (by decide) (hts _ hf_X3_insert_13) (fun _ h9 => h9) rfl dX3_insert_17 ?_
  refine lv_iload_n hx hb dX3_insert_20 rfl (lv_at hl 1 rfl) ?_
  refine pw_iald hx hb hK.1 hP 2 0 rfl rfl (by decide) (by omega) dX3_insert_21 ?_
  refine pw_top (y := nI (Z i)) rfl ?_
  refine lv_bipush (v := nI 60) hx hb dX3_insert_22 (by decide) ?_
  refine pw_icmp_ne (tgt := 30) hx hb (by omega) (by omega) dX3_insert_24 (by decide) (fun c_1 => ?_) (fun c_1 => ?_)
  · have _h := c_1
    refine lv_iload_n hx hb dX3_insert_30 rfl (lv_at hl 2 rfl) ?_
    refine lv_iconst (v := nI 0) hx hb dX3_insert_31 (by decide) ?_
    refine lv_aload_n hx hb dX3_insert_32 rfl (lv_at hl 0 rfl) ?_
    refine va_get (D := D) (ci := 3) (v := .ref z) (C := RX3) (T := TX3) (N := 11) hx hb hts hi_X3_insert_3 hown hK.1 hP 0 rfl rfl 1 (by decide) (hts _ hf_X3_insert_13) (fun _ h9 => h9) rfl dX3_insert_33 ?_
    refine lv_iload_n hx hb dX3_insert_36 rfl (lv_at hl 1 rfl) ?_
    refine pw_iald hx hb hK.1 hP 2 0 rfl rfl (by decide) (by omega) dX3_insert_37 ?_
    refine pw_top (y := nI (Z i)) rfl ?_
    -- m_in_t
    refine pw_cSp (As := [.int (nI j), .int (nI 0), .int (nI (Z i))]) (rest := []) ⟨hx, hb, hml, hown, hts⟩ (m_in_t l D cI cP cR (nI j) (nI 0) (nI (Z i)) (⟨pw_ge0 (by omega), (pw_leN (by omega) (by omega)).mpr (by omega)⟩)) (va_cwS 3 hts gX3_insert_X3_in rfl rfl rfl (by decide +kernel) ⟨Nat.le_of_ble_eq_true rfl, Nat.le_of_ble_eq_true rfl⟩) hK rfl hl.1 rfl (Nat.le_of_ble_eq_true rfl) dX3_insert_38 ⟨Nat.zero_le _, Nat.zero_le _⟩ ?_
    refine lv_if_ne (tgt := 52) hx hb dX3_insert_41 (by decide) (fun c => ?_) (fun c => absurd c (by decide))
    refine lv_aload_n hx hb dX3_insert_52 rfl (lv_at hl 0 rfl) ?_
    refine lv_iload_n hx hb dX3_insert_53 rfl (lv_at hl 1 rfl) ?_
    refine lv_iload_n hx hb dX3_insert_54 rfl (lv_at hl 2 rfl) ?_
    refine lv_aload_n hx hb dX3_insert_55 rfl (lv_at hl 0 rfl) ?_
    refine lv_iload_n hx hb dX3_insert_56 rfl (lv_at hl 3 rfl) ?_
    -- m_make
    refine pw_cVm (As := [.int (nI nm)]) (rest := [.int (nI j), .int (nI i), .ref x]) (wc := [(x, .inr (3, [.ref t, .ref z, .int (nI md), .ref rf, .ref rw, .ref pl, .ref hd, .ref ha, .ref lo, .ref ol, .ref as_]))]) (wr := [(t, .inl (cI, 192, .inl (flT T))), (z, .inl (cI, 3, .inl (zI Z))), (rf, .inl (cI, 4, .inl (RF))), (rw, .inl (cI, 4, .inl (R))), (pl, .inl (cI, 4, .inl (P))), (hd, .inl (cI, 4, .inl (Hd))), (ha, .inl (cI, 4, .inl (HA))), (lo, .inl (cI, 4, .inl (Lo))), (ol, .inl (cI, 4, .inl (Ol))), (as_, .inl (cI, 64, .inl (AS)))]) ⟨hx, hb, hml, hown, hts⟩ (m_make l D cI cP cR x t z rf rw pl hd ha lo ol as_ md nm) (cwV 1 hts gX3_insert_X3_make rfl rfl rfl (by decide +kernel) ⟨Nat.le_of_ble_eq_true rfl, Nat.le_of_ble_eq_true rfl⟩) hK hP hD hS hA [0] [1, 2, 3, 4, 5, 6, 7, 8, 9, 10] rfl rfl (by decide) (by decide) (by decide) 0 rfl rfl rfl rfl hl.1 rfl (Nat.le_of_ble_eq_true rfl) dX3_insert_57 ⟨Nat.zero_le _, Nat.zero_le _⟩ (fun v1 w1 H locs hq hP hD hS => ?_)
    rcases hq with ⟨rfl, rfl⟩
    have hP : va_P D vwCl ([(t, .inl (cI, 192, .inl (flT T))), (z, .inl (cI, 3, .inl (zI Z))), (rf, .inl (cI, 4, .inl (RF))), (rw, .inl (cI, 4, .inl (R))), (pl, .inl (cI, 4, .inl (P))), (hd, .inl (cI, 4, .inl (Hd))), (ha, .inl (cI, 4, .inl (HA))), (lo, .inl (cI, 4, .inl (Lo))), (ol, .inl (cI, 4, .inl (Ol))), (as_, .inl (cI, 64, .inl (AS))), (x, .inr (3, [.ref t, .ref z, .int (nI (md + 1)), .ref rf, .ref rw, .ref pl, .ref hd, .ref ha, .ref lo, .ref ol, .ref as_]))]) H := hP
    have hD : va_D A ([(t, .inl (cI, 192, .inl (flT T))), (z, .inl (cI, 3, .inl (zI Z))), (rf, .inl (cI, 4, .inl (RF))), (rw, .inl (cI, 4, .inl (R))), (pl, .inl (cI, 4, .inl (P))), (hd, .inl (cI, 4, .inl (Hd))), (ha, .inl (cI, 4, .inl (HA))), (lo, .inl (cI, 4, .inl (Lo))), (ol, .inl (cI, 4, .inl (Ol))), (as_, .inl (cI, 64, .inl (AS))), (x, .inr (3, [.ref t, .ref z, .int (nI (md + 1)), .ref rf, .ref rw, .ref pl, .ref hd, .ref ha, .ref lo, .ref ol, .ref as_]))]) := hD
    refine W.eq (g2 := F0 m 60 ls [.int (nI ((md * 10) + nm)), .int (nI j), .int (nI i), .ref x]) rfl ?_
    -- m_open
    refine pw_cVm (As := [.int (nI i), .int (nI j), .int (nI ((md * 10) + nm))]) (rest := []) (wc := [(x, .inr (3, [.ref t, .ref z, .int (nI (md + 1)), .ref rf, .ref rw, .ref pl, .ref hd, .ref ha, .ref lo, .ref ol, .ref as_])), (t, .inl (cI, 192, .inl (flT T))), (z, .inl (cI, 3, .inl (zI Z)))]) (wr := [(rf, .inl (cI, 4, .inl (RF))), (rw, .inl (cI, 4, .inl (R))), (pl, .inl (cI, 4, .inl (P))), (hd, .inl (cI, 4, .inl (Hd))), (ha, .inl (cI, 4, .inl (HA))), (lo, .inl (cI, 4, .inl (Lo))), (ol, .inl (cI, 4, .inl (Ol))), (as_, .inl (cI, 64, .inl (AS)))]) ⟨hx, hb, hml, hown, hts⟩ (m_open l D cI cP cR x t z rf rw pl hd ha lo ol as_ (md + 1) T Z i j (nI ((md * 10) + nm)) (by omega) (by omega) (by omega)) (cwV 3 hts gX3_insert_X3_open rfl rfl rfl (by decide +kernel) ⟨Nat.le_of_ble_eq_true rfl, Nat.le_of_ble_eq_true rfl⟩) hK hP hD hS hA [10, 0, 1] [2, 3, 4, 5, 6, 7, 8, 9] rfl rfl (by decide) (by decide) (by decide) 0 rfl rfl rfl rfl hl.1 rfl (Nat.le_of_ble_eq_true rfl) dX3_insert_60 ⟨Nat.zero_le _, Nat.zero_le _⟩ (fun v1 w1 H locs hq hP hD hS => ?_)
    rcases hq with ⟨rfl, rfl⟩
    have hP : va_P D vwCl ([(rf, .inl (cI, 4, .inl (RF))), (rw, .inl (cI, 4, .inl (R))), (pl, .inl (cI, 4, .inl (P))), (hd, .inl (cI, 4, .inl (Hd))), (ha, .inl (cI, 4, .inl (HA))), (lo, .inl (cI, 4, .inl (Lo))), (ol, .inl (cI, 4, .inl (Ol))), (as_, .inl (cI, 64, .inl (AS))), (x, .inr (3, [.ref t, .ref z, .int (nI (md + 1)), .ref rf, .ref rw, .ref pl, .ref hd, .ref ha, .ref lo, .ref ol, .ref as_])), (t, .inl (cI, 192, .inl (flT (upR T i (upd (opn (T i) j 1 (Z i)) j (nI ((md * 10) + nm))))))), (z, .inl (cI, 3, .inl (zI (updN Z i (Z i + 1)))))]) H := hP
    have hD : va_D A ([(rf, .inl (cI, 4, .inl (RF))), (rw, .inl (cI, 4, .inl (R))), (pl, .inl (cI, 4, .inl (P))), (hd, .inl (cI, 4, .inl (Hd))), (ha, .inl (cI, 4, .inl (HA))), (lo, .inl (cI, 4, .inl (Lo))), (ol, .inl (cI, 4, .inl (Ol))), (as_, .inl (cI, 64, .inl (AS))), (x, .inr (3, [.ref t, .ref z, .int (nI (md + 1)), .ref rf, .ref rw, .ref pl, .ref hd, .ref ha, .ref lo, .ref ol, .ref as_])), (t, .inl (cI, 192, .inl (flT (upR T i (upd (opn (T i) j 1 (Z i)) j (nI ((md * 10) + nm))))))), (z, .inl (cI, 3, .inl (zI (updN Z i (Z i + 1)))))]) := hD
    refine W.eq (g2 := F0 m 63 ls []) rfl ?_
    refine lv_aload_n hx hb dX3_insert_63 rfl (lv_at hl 0 rfl) ?_
    refine lv_iload_n hx hb dX3_insert_64 rfl (lv_at hl 1 rfl) ?_
    refine lv_iconst (v := -1) hx hb dX3_insert_65 (by decide) ?_
    -- m_age
    refine pw_cVm (As := [.int (nI i), .int (-1)]) (rest := []) (wc := [(x, .inr (3, [.ref t, .ref z, .int (nI (md + 1)), .ref rf, .ref rw, .ref pl, .ref hd, .ref ha, .ref lo, .ref ol, .ref as_])), (rw, .inl (cI, 4, .inl (R))), (ol, .inl (cI, 4, .inl (Ol)))]) (wr := [(rf, .inl (cI, 4, .inl (RF))), (pl, .inl (cI, 4, .inl (P))), (hd, .inl (cI, 4, .inl (Hd))), (ha, .inl (cI, 4, .inl (HA))), (lo, .inl (cI, 4, .inl (Lo))), (as_, .inl (cI, 64, .inl (AS))), (t, .inl (cI, 192, .inl (flT (upR T i (upd (opn (T i) j 1 (Z i)) j (nI ((md * 10) + nm))))))), (z, .inl (cI, 3, .inl (zI (updN Z i (Z i + 1)))))]) ⟨hx, hb, hml, hown, hts⟩ (m_age l D cI cP cR x t z rf rw pl hd ha lo ol as_ (md + 1) R Ol i (-1)) (cwV 2 hts gX3_insert_X3_age rfl rfl rfl (by decide +kernel) ⟨Nat.le_of_ble_eq_true rfl, Nat.le_of_ble_eq_true rfl⟩) hK hP hD hS hA [8, 1, 6] [0, 2, 3, 4, 5, 7, 9, 10] rfl rfl (by decide) (by decide) (by decide) 0 rfl rfl rfl rfl hl.1 rfl (Nat.le_of_ble_eq_true rfl) dX3_insert_66 ⟨Nat.zero_le _, Nat.zero_le _⟩ (fun v1 w1 H locs hq hP hD hS => ?_)
    rcases hq with ⟨rfl, rfl⟩
    have hP : va_P D vwCl ([(rf, .inl (cI, 4, .inl (RF))), (pl, .inl (cI, 4, .inl (P))), (hd, .inl (cI, 4, .inl (Hd))), (ha, .inl (cI, 4, .inl (HA))), (lo, .inl (cI, 4, .inl (Lo))), (as_, .inl (cI, 64, .inl (AS))), (t, .inl (cI, 192, .inl (flT (upR T i (upd (opn (T i) j 1 (Z i)) j (nI ((md * 10) + nm))))))), (z, .inl (cI, 3, .inl (zI (updN Z i (Z i + 1))))), (x, .inr (3, [.ref t, .ref z, .int (nI (md + 1)), .ref rf, .ref rw, .ref pl, .ref hd, .ref ha, .ref lo, .ref ol, .ref as_])), (rw, .inl (cI, 4, .inl (R))), (ol, .inl (cI, 4, .inl (agF R Ol (nI i) (-1))))]) H := hP
    have hD : va_D A ([(rf, .inl (cI, 4, .inl (RF))), (pl, .inl (cI, 4, .inl (P))), (hd, .inl (cI, 4, .inl (Hd))), (ha, .inl (cI, 4, .inl (HA))), (lo, .inl (cI, 4, .inl (Lo))), (as_, .inl (cI, 64, .inl (AS))), (t, .inl (cI, 192, .inl (flT (upR T i (upd (opn (T i) j 1 (Z i)) j (nI ((md * 10) + nm))))))), (z, .inl (cI, 3, .inl (zI (updN Z i (Z i + 1))))), (x, .inr (3, [.ref t, .ref z, .int (nI (md + 1)), .ref rf, .ref rw, .ref pl, .ref hd, .ref ha, .ref lo, .ref ol, .ref as_])), (rw, .inl (cI, 4, .inl (R))), (ol, .inl (cI, 4, .inl (agF R Ol (nI i) (-1))))]) := hD
    refine W.eq (g2 := F0 m 69 ls []) rfl ?_
    refine lv_aload_n hx hb dX3_insert_69 rfl (lv_at hl 0 rfl) ?_
    refine va_get (D := D) (ci := 3) (v := .ref z) (C := RX3) (T := TX3) (N := 11) hx hb hts hi_X3_insert_3 hown hK.1 hP 8 rfl rfl 1 (by decide) (hts _ hf_X3_insert_13) (fun _ h9 => h9) rfl dX3_insert_70 ?_
    refine lv_iload_n hx hb dX3_insert_73 rfl (lv_at hl 1 rfl) ?_
    refine pw_iald hx hb hK.1 hP 7 0 rfl rfl (by decide) (by omega) dX3_insert_74 ?_
    refine pw_top (y := nI (Z i + 1)) (congrArg nI (updN_s _ _ _)) ?_
    have hP := hP.sub (ws' := [(x, .inr (3, [.ref t, .ref z, .int (nI (md + 1)), .ref rf, .ref rw, .ref pl, .ref hd, .ref ha, .ref lo, .ref ol, .ref as_])), (t, .inl (cI, 192, .inl (flT (upR T i (upd (opn (T i) j 1 (Z i)) j (nI ((md * 10) + nm))))))), (z, .inl (cI, 3, .inl (zI (updN Z i (Z i + 1))))), (rf, .inl (cI, 4, .inl (RF))), (rw, .inl (cI, 4, .inl (R))), (pl, .inl (cI, 4, .inl (P))), (hd, .inl (cI, 4, .inl (Hd))), (ha, .inl (cI, 4, .inl (HA))), (lo, .inl (cI, 4, .inl (Lo))), (ol, .inl (cI, 4, .inl (agF R Ol (nI i) (-1)))), (as_, .inl (cI, 64, .inl (AS)))]) [8, 6, 7, 0, 9, 1, 2, 3, 4, 10, 5] rfl
    have hD := hD.sub (ws' := [(x, .inr (3, [.ref t, .ref z, .int (nI (md + 1)), .ref rf, .ref rw, .ref pl, .ref hd, .ref ha, .ref lo, .ref ol, .ref as_])), (t, .inl (cI, 192, .inl (flT (upR T i (upd (opn (T i) j 1 (Z i)) j (nI ((md * 10) + nm))))))), (z, .inl (cI, 3, .inl (zI (updN Z i (Z i + 1))))), (rf, .inl (cI, 4, .inl (RF))), (rw, .inl (cI, 4, .inl (R))), (pl, .inl (cI, 4, .inl (P))), (hd, .inl (cI, 4, .inl (Hd))), (ha, .inl (cI, 4, .inl (HA))), (lo, .inl (cI, 4, .inl (Lo))), (ol, .inl (cI, 4, .inl (agF R Ol (nI i) (-1)))), (as_, .inl (cI, 64, .inl (AS)))]) [8, 6, 7, 0, 9, 1, 2, 3, 4, 10, 5] (by decide) rfl
    exact pw_iret hx hb hr (rfl) hlocks dX3_insert_75 hS hP hD (⟨rfl, rfl⟩)
  · exact absurd c_1 (by omega)
set_option maxHeartbeats 4000000 in
set_option maxRecDepth 100000 in
theorem n_find (l : Launch) (D : va_G) (cI cP cR : ClassId) (x t z rf rw pl hd ha lo ol as_ md : Nat) (T : Nat → Nat → Int32) (Z : Nat → Nat) (RF R P Hd HA Lo Ol AS : Nat → Int32) (i : Nat) (hi : i < 3) (hz : Z i ≤ 60) (nm : Nat) (hnm : nm < 10) (la : Int32) : pw_Mp l yX3_find wsX3_find ({ frames := 2, cells := 0, slots := 0, locals := 47 } : Room) D cI cP cR [.ref x, .int (nI i), .int (nI nm), .int (la)] ([(x, .inr (3, [.ref t, .ref z, .int (nI md), .ref rf, .ref rw, .ref pl, .ref hd, .ref ha, .ref lo, .ref ol, .ref as_])), (t, .inl (cI, 192, .inl (flT T))), (z, .inl (cI, 3, .inl (zI Z))), (rf, .inl (cI, 4, .inl (RF))), (rw, .inl (cI, 4, .inl (R))), (pl, .inl (cI, 4, .inl (P))), (hd, .inl (cI, 4, .inl (Hd))), (ha, .inl (cI, 4, .inl (HA))), (lo, .inl (cI, 4, .inl (Lo))), (ol, .inl (cI, 4, .inl (Ol))), (as_, .inl (cI, 64, .inl (AS)))]) (.int (if plc (T i) (nI nm) la (Z i) = -1 then -6 else plc (T i) (nI nm) la (Z i))) := by
  refine pw_ofp (cc := cX3_find) (maxL := 5) (ret := (some .int)) (own := RX3) (by decide +kernel) rfl rfl (Nat.le_of_ble_eq_true rfl) ?_
  intro p_ e_ s m bel meth cd hE hK hP hD ls hl
  obtain ⟨hx, hb, hr, hml, hown, hts, hlocks⟩ := hE
  have hNW := hK.2
  have hl : lv_has ls 5 [(0, .ref x), (1, .int (nI i)), (2, .int (nI nm)), (3, .int (la))] := hl
  refine lv_iload_n hx hb dX3_find_0 rfl (lv_at hl 1 rfl) ?_
  -- m_isRow_t
  refine pw_cSp (As := [.int (nI i)]) (rest := []) ⟨hx, hb, hml, hown, hts⟩ (m_isRow_t l D cI cP cR i (by omega)) (va_cwS 1 hts gX3_find_X3_isRow rfl rfl rfl (by decide +kernel) ⟨Nat.le_of_ble_eq_true rfl, Nat.le_of_ble_eq_true rfl⟩) hK rfl hl.1 rfl (Nat.le_of_ble_eq_true rfl) dX3_find_1 ⟨Nat.zero_le _, Nat.zero_le _⟩ ?_
  refine lv_if_eq (tgt := 14) hx hb dX3_find_4 (by decide) (fun c => absurd c (by decide)) (fun c => ?_)
  refine lv_iload_n hx hb dX3_find_7 rfl (lv_at hl 2 rfl) ?_
  -- m_isName_t
  refine pw_cSp (As := [.int (nI nm)]) (rest := []) ⟨hx, hb, hml, hown, hts⟩ (m_isName_t l D cI cP cR nm (by omega)) (va_cwS 1 hts gX3_find_X3_isName rfl rfl rfl (by decide +kernel) ⟨Nat.le_of_ble_eq_true rfl, Nat.le_of_ble_eq_true rfl⟩) hK rfl hl.1 rfl (Nat.le_of_ble_eq_true rfl) dX3_find_8 ⟨Nat.zero_le _, Nat.zero_le _⟩ ?_
  refine lv_if_ne (tgt := 16) hx hb dX3_find_11 (by decide) (fun c => ?_) (fun c => absurd c (by decide))
  refine lv_aload_n hx hb dX3_find_16 rfl (lv_at hl 0 rfl) ?_
  refine lv_iload_n hx hb dX3_find_17 rfl (lv_at hl 1 rfl) ?_
  refine lv_iload_n hx hb dX3_find_18 rfl (lv_at hl 2 rfl) ?_
  refine lv_iload_n hx hb dX3_find_19 rfl (lv_at hl 3 rfl) ?_
  -- m_placeBy
  refine pw_cVp (As := [.int (nI i), .int (nI nm), .int (la)]) (rest := []) (wc := [(x, .inr (3, [.ref t, .ref z, .int (nI md), .ref rf, .ref rw, .ref pl, .ref hd, .ref ha, .ref lo, .ref ol, .ref as_])), (t, .inl (cI, 192, .inl (flT T))), (z, .inl (cI, 3, .inl (zI Z)))]) ⟨hx, hb, hml, hown, hts⟩ (m_placeBy l D cI cP cR x t z rf rw pl hd ha lo ol as_ md T Z i (nI nm) la (by omega) (by omega)) (cwV 3 hts gX3_find_X3_placeBy rfl rfl rfl (by decide +kernel) ⟨Nat.le_of_ble_eq_true rfl, Nat.le_of_ble_eq_true rfl⟩) hK hP hD [0, 1, 2] rfl (by decide) 0 rfl rfl rfl rfl hl.1 rfl (Nat.le_of_ble_eq_true rfl) dX3_find_20 ⟨Nat.zero_le _, Nat.zero_le _⟩ ?_
  refine lv_istore (lv' := [(4, .int (plc (T i) (nI nm) la (Z i))), (0, .ref x), (1, .int (nI i)), (2, .int (nI nm)), (3, .int (la))]) hx hb dX3_find_23 hl (by decide) rfl (fun ls hl => ?_)
  refine lv_iload hx hb dX3_find_25 (lv_at hl 0 rfl) ?_
  refine lv_iconst (v := -1) hx hb dX3_find_27 (by decide) ?_
  refine lv_icmp_ne (tgt := 36) hx hb dX3_find_28 (by decide) (fun c_1 => ?_) (fun c_1 => ?_)
  · have _h := c_1
    refine lv_iload hx hb dX3_find_36 (lv_at hl 0 rfl) ?_
    exact pw_piret hx hb hr (rfl) hlocks dX3_find_38 (by rw [if_neg c_1])
  · have _h := c_1
    refine lv_bipush (v := -6) hx hb dX3_find_31 (by decide) ?_
    refine lv_goto (tgt := 38) hx hb dX3_find_33 (by decide) ?_
    exact pw_piret hx hb hr (rfl) hlocks dX3_find_38 (by rw [if_pos c_1])
set_option maxHeartbeats 4000000 in
set_option maxRecDepth 100000 in
theorem n_has (l : Launch) (D : va_G) (cI cP cR : ClassId) (x t z rf rw pl hd ha lo ol as_ md : Nat) (T : Nat → Nat → Int32) (Z : Nat → Nat) (RF R P Hd HA Lo Ol AS : Nat → Int32) (i : Nat) (hi : i < 3) (hz : Z i ≤ 60) (nm : Nat) (hnm : nm < 10) : pw_Mp l yX3_has wsX3_has ({ frames := 2, cells := 0, slots := 0, locals := 47 } : Room) D cI cP cR [.ref x, .int (nI i), .int (nI nm)] ([(x, .inr (3, [.ref t, .ref z, .int (nI md), .ref rf, .ref rw, .ref pl, .ref hd, .ref ha, .ref lo, .ref ol, .ref as_])), (t, .inl (cI, 192, .inl (flT T))), (z, .inl (cI, 3, .inl (zI Z))), (rf, .inl (cI, 4, .inl (RF))), (rw, .inl (cI, 4, .inl (R))), (pl, .inl (cI, 4, .inl (P))), (hd, .inl (cI, 4, .inl (Hd))), (ha, .inl (cI, 4, .inl (HA))), (lo, .inl (cI, 4, .inl (Lo))), (ol, .inl (cI, 4, .inl (Ol))), (as_, .inl (cI, 64, .inl (AS)))]) (.int (if plc (T i) (nI nm) (nI 0) (Z i) = -1 then nI 0 else nI 1)) := by
  refine pw_ofp (cc := cX3_has) (maxL := 3) (ret := (some .int)) (own := RX3) (by decide +kernel) rfl rfl (Nat.le_of_ble_eq_true rfl) ?_
  intro p_ e_ s m bel meth cd hE hK hP hD ls hl
  obtain ⟨hx, hb, hr, hml, hown, hts, hlocks⟩ := hE
  have hNW := hK.2
  have hl : lv_has ls 3 [(0, .ref x), (1, .int (nI i)), (2, .int (nI nm))] := hl
  refine lv_iload_n hx hb dX3_has_0 rfl (lv_at hl 1 rfl) ?_
  -- m_isRow_t
  refine pw_cSp (As := [.int (nI i)]) (rest := []) ⟨hx, hb, hml, hown, hts⟩ (m_isRow_t l D cI cP cR i (by omega)) (va_cwS 1 hts gX3_has_X3_isRow rfl rfl rfl (by decide +kernel) ⟨Nat.le_of_ble_eq_true rfl, Nat.le_of_ble_eq_true rfl⟩) hK rfl hl.1 rfl (Nat.le_of_ble_eq_true rfl) dX3_has_1 ⟨Nat.zero_le _, Nat.zero_le _⟩ ?_
  refine lv_if_eq (tgt := 14) hx hb dX3_has_4 (by decide) (fun c => absurd c (by decide)) (fun c => ?_)
  refine lv_iload_n hx hb dX3_has_7 rfl (lv_at hl 2 rfl) ?_
  -- m_isName_t
  refine pw_cSp (As := [.int (nI nm)]) (rest := []) ⟨hx, hb, hml, hown, hts⟩ (m_isName_t l D cI cP cR nm (by omega)) (va_cwS 1 hts gX3_has_X3_isName rfl rfl rfl (by decide +kernel) ⟨Nat.le_of_ble_eq_true rfl, Nat.le_of_ble_eq_true rfl⟩) hK rfl hl.1 rfl (Nat.le_of_ble_eq_true rfl) dX3_has_8 ⟨Nat.zero_le _, Nat.zero_le _⟩ ?_
  refine lv_if_ne (tgt := 16) hx hb dX3_has_11 (by decide) (fun c => ?_) (fun c => absurd c (by decide))
  refine lv_aload_n hx hb dX3_has_16 rfl (lv_at hl 0 rfl) ?_
  refine lv_iload_n hx hb dX3_has_17 rfl (lv_at hl 1 rfl) ?_
  refine lv_iload_n hx hb dX3_has_18 rfl (lv_at hl 2 rfl) ?_
  refine lv_iconst (v := nI 0) hx hb dX3_has_19 (by decide) ?_
  -- m_placeBy
  refine pw_cVp (As := [.int (nI i), .int (nI nm), .int (nI 0)]) (rest := []) (wc := [(x, .inr (3, [.ref t, .ref z, .int (nI md), .ref rf, .ref rw, .ref pl, .ref hd, .ref ha, .ref lo, .ref ol, .ref as_])), (t, .inl (cI, 192, .inl (flT T))), (z, .inl (cI, 3, .inl (zI Z)))]) ⟨hx, hb, hml, hown, hts⟩ (m_placeBy l D cI cP cR x t z rf rw pl hd ha lo ol as_ md T Z i (nI nm) (nI 0) (by omega) (by omega)) (cwV 3 hts gX3_has_X3_placeBy rfl rfl rfl (by decide +kernel) ⟨Nat.le_of_ble_eq_true rfl, Nat.le_of_ble_eq_true rfl⟩) hK hP hD [0, 1, 2] rfl (by decide) 0 rfl rfl rfl rfl hl.1 rfl (Nat.le_of_ble_eq_true rfl) dX3_has_20 ⟨Nat.zero_le _, Nat.zero_le _⟩ ?_
  refine lv_iconst (v := -1) hx hb dX3_has_23 (by decide) ?_
  refine lv_icmp_ne (tgt := 31) hx hb dX3_has_24 (by decide) (fun c_1 => ?_) (fun c_1 => ?_)
  · have _h := c_1
    refine lv_iconst (v := nI 1) hx hb dX3_has_31 (by decide) ?_
    exact pw_piret hx hb hr (rfl) hlocks dX3_has_32 (by rw [if_neg c_1])
  · have _h := c_1
    refine lv_iconst (v := nI 0) hx hb dX3_has_27 (by decide) ?_
    refine lv_goto (tgt := 32) hx hb dX3_has_28 (by decide) ?_
    exact pw_piret hx hb hr (rfl) hlocks dX3_has_32 (by rw [if_pos c_1])
set_option maxHeartbeats 4000000 in
set_option maxRecDepth 100000 in
theorem n_lose_x (l : Launch) (D : va_G) (cI cP cR : ClassId) (x t z rf rw pl hd ha lo ol as_ md : Nat) (T : Nat → Nat → Int32) (Z : Nat → Nat) (RF R P Hd HA Lo Ol AS : Nat → Int32) (row name how : Int32) (hbad : ¬ ((0 ≤ row ∧ row < nI 3) ∧ (0 ≤ name ∧ name < nI 10) ∧ (0 ≤ how ∧ how ≤ nI 2))) : pw_Mp l yX3_lose wsX3_lose ({ frames := 2, cells := 0, slots := 0, locals := 47 } : Room) D cI cP cR [.ref x, .int (row), .int (name), .int (how)] ([(x, .inr (3, [.ref t, .ref z, .int (nI md), .ref rf, .ref rw, .ref pl, .ref hd, .ref ha, .ref lo, .ref ol, .ref as_])), (t, .inl (cI, 192, .inl (flT T))), (z, .inl (cI, 3, .inl (zI Z))), (rf, .inl (cI, 4, .inl (RF))), (rw, .inl (cI, 4, .inl (R))), (pl, .inl (cI, 4, .inl (P))), (hd, .inl (cI, 4, .inl (Hd))), (ha, .inl (cI, 4, .inl (HA))), (lo, .inl (cI, 4, .inl (Lo))), (ol, .inl (cI, 4, .inl (Ol))), (as_, .inl (cI, 64, .inl (AS)))]) (.int (-1)) := by
  refine pw_ofp (cc := cX3_lose) (maxL := 6) (ret := (some .int)) (own := RX3) (by decide +kernel) rfl rfl (Nat.le_of_ble_eq_true rfl) ?_
  intro p_ e_ s m bel meth cd hE hK hP hD ls hl
  obtain ⟨hx, hb, hr, hml, hown, hts, hlocks⟩ := hE
  have hNW := hK.2
  have hl : lv_has ls 6 [(0, .ref x), (1, .int (row)), (2, .int (name)), (3, .int (how))] := hl
  by_cases hx_row : 0 ≤ row ∧ row < nI 3
  · obtain ⟨rj_1, hrj_1, rfl⟩ := pw_inP (by decide) hx_row
    by_cases hx_name : 0 ≤ name ∧ name < nI 10
    · obtain ⟨nj_2, hnj_2, rfl⟩ := pw_inP (by decide) hx_name
      refine lv_iload_n hx hb dX3_lose_0 rfl (lv_at hl 1 rfl) ?_
      -- m_isRow_t
      refine pw_cSp (As := [.int (nI rj_1)]) (rest := []) ⟨hx, hb, hml, hown, hts⟩ (m_isRow_t l D cI cP cR rj_1 (by omega)) (va_cwS 1 hts gX3_lose_X3_isRow rfl rfl rfl (by decide +kernel) ⟨Nat.le_of_ble_eq_true rfl, Nat.le_of_ble_eq_true rfl⟩) hK rfl hl.1 rfl (Nat.le_of_ble_eq_true rfl) dX3_lose_1 ⟨Nat.zero_le _, Nat.zero_le _⟩ ?_
      refine lv_if_eq (tgt := 23) hx hb dX3_lose_4 (by decide) (fun c => absurd c (by decide)) (fun c => ?_)
      refine lv_iload_n hx hb dX3_lose_7 rfl (lv_at hl 2 rfl) ?_
      -- m_isName_t
      refine pw_cSp (As := [.int (nI nj_2)]) (rest := []) ⟨hx, hb, hml, hown, hts⟩ (m_isName_t l D cI cP cR nj_2 (by omega)) (va_cwS 1 hts gX3_lose_X3_isName rfl rfl rfl (by decide +kernel) ⟨Nat.le_of_ble_eq_true rfl, Nat.le_of_ble_eq_true rfl⟩) hK rfl hl.1 rfl (Nat.le_of_ble_eq_true rfl) dX3_lose_8 ⟨Nat.zero_le _, Nat.zero_le _⟩ ?_
      refine lv_if_eq (tgt := 23) hx hb dX3_lose_11 (by decide) (fun c => absurd c (by decide)) (fun c => ?_)
      refine lv_iload_n hx hb dX3_lose_14 rfl (lv_at hl 3 rfl) ?_
      refine lv_iconst (v := nI 0) hx hb dX3_lose_15 (by decide) ?_
      refine lv_iconst (v := nI 2) hx hb dX3_lose_16 (by decide) ?_
      -- m_in_f
      refine pw_cSp (As := [.int (how), .int (nI 0), .int (nI 2)]) (rest := []) ⟨hx, hb, hml, hown, hts⟩ (m_in_f l D cI cP cR how (nI 0) (nI 2) (fun h => hbad ⟨hx_row, hx_name, h⟩)) (va_cwS 3 hts gX3_lose_X3_in rfl rfl rfl (by decide +kernel) ⟨Nat.le_of_ble_eq_true rfl, Nat.le_of_ble_eq_true rfl⟩) hK rfl hl.1 rfl (Nat.le_of_ble_eq_true rfl) dX3_lose_17 ⟨Nat.zero_le _, Nat.zero_le _⟩ ?_
      refine lv_if_ne (tgt := 25) hx hb dX3_lose_20 (by decide) (fun c => absurd c (by decide)) (fun c => ?_)
      refine lv_iconst (v := -1) hx hb dX3_lose_23 (by decide) ?_
      exact pw_piret hx hb hr (rfl) hlocks dX3_lose_24 (rfl)
    · have _h := hx_name
      refine lv_iload_n hx hb dX3_lose_0 rfl (lv_at hl 1 rfl) ?_
      -- m_isRow_t
      refine pw_cSp (As := [.int (nI rj_1)]) (rest := []) ⟨hx, hb, hml, hown, hts⟩ (m_isRow_t l D cI cP cR rj_1 (by omega)) (va_cwS 1 hts gX3_lose_X3_isRow rfl rfl rfl (by decide +kernel) ⟨Nat.le_of_ble_eq_true rfl, Nat.le_of_ble_eq_true rfl⟩) hK rfl hl.1 rfl (Nat.le_of_ble_eq_true rfl) dX3_lose_1 ⟨Nat.zero_le _, Nat.zero_le _⟩ ?_
      refine lv_if_eq (tgt := 23) hx hb dX3_lose_4 (by decide) (fun c => absurd c (by decide)) (fun c => ?_)
      refine lv_iload_n hx hb dX3_lose_7 rfl (lv_at hl 2 rfl) ?_
      -- m_isName_f
      refine pw_cSp (As := [.int (name)]) (rest := []) ⟨hx, hb, hml, hown, hts⟩ (m_isName_f l D cI cP cR name hx_name) (va_cwS 1 hts gX3_lose_X3_isName rfl rfl rfl (by decide +kernel) ⟨Nat.le_of_ble_eq_true rfl, Nat.le_of_ble_eq_true rfl⟩) hK rfl hl.1 rfl (Nat.le_of_ble_eq_true rfl) dX3_lose_8 ⟨Nat.zero_le _, Nat.zero_le _⟩ ?_
      refine lv_if_eq (tgt := 23) hx hb dX3_lose_11 (by decide) (fun c => ?_) (fun c => absurd c (by decide))
      refine lv_iconst (v := -1) hx hb dX3_lose_23 (by decide) ?_
      exact pw_piret hx hb hr (rfl) hlocks dX3_lose_24 (rfl)
  · have _h := hx_row
    refine lv_iload_n hx hb dX3_lose_0 rfl (lv_at hl 1 rfl) ?_
    -- m_isRow_f
    refine pw_cSp (As := [.int (row)]) (rest := []) ⟨hx, hb, hml, hown, hts⟩ (m_isRow_f l D cI cP cR row hx_row) (va_cwS 1 hts gX3_lose_X3_isRow rfl rfl rfl (by decide +kernel) ⟨Nat.le_of_ble_eq_true rfl, Nat.le_of_ble_eq_true rfl⟩) hK rfl hl.1 rfl (Nat.le_of_ble_eq_true rfl) dX3_lose_1 ⟨Nat.zero_le _, Nat.zero_le _⟩ ?_
    refine lv_if_eq (tgt := 23) hx hb dX3_lose_4 (by decide) (fun c => ?_) (fun c => absurd c (by decide))
    refine lv_iconst (v := -1) hx hb dX3_lose_23 (by decide) ?_
    exact pw_piret hx hb hr (rfl) hlocks dX3_lose_24 (rfl)
set_option maxHeartbeats 4000000 in
set_option maxRecDepth 100000 in
theorem n_lose_0 (l : Launch) (D : va_G) (cI cP cR : ClassId) (x t z rf rw pl hd ha lo ol as_ md : Nat) (T : Nat → Nat → Int32) (Z : Nat → Nat) (RF R P Hd HA Lo Ol AS : Nat → Int32) (i : Nat) (hi : i < 3) (hz : Z i ≤ 60) (nm hw : Nat) (hnm : nm < 10) (hw2 : hw ≤ 2) (hp : plc (T i) (nI nm) (laF hw) (Z i) = -1) : pw_Mp l yX3_lose wsX3_lose ({ frames := 2, cells := 0, slots := 0, locals := 47 } : Room) D cI cP cR [.ref x, .int (nI i), .int (nI nm), .int (nI hw)] ([(x, .inr (3, [.ref t, .ref z, .int (nI md), .ref rf, .ref rw, .ref pl, .ref hd, .ref ha, .ref lo, .ref ol, .ref as_])), (t, .inl (cI, 192, .inl (flT T))), (z, .inl (cI, 3, .inl (zI Z))), (rf, .inl (cI, 4, .inl (RF))), (rw, .inl (cI, 4, .inl (R))), (pl, .inl (cI, 4, .inl (P))), (hd, .inl (cI, 4, .inl (Hd))), (ha, .inl (cI, 4, .inl (HA))), (lo, .inl (cI, 4, .inl (Lo))), (ol, .inl (cI, 4, .inl (Ol))), (as_, .inl (cI, 64, .inl (AS)))]) (.int (nI 0)) := by
  refine pw_ofp (cc := cX3_lose) (maxL := 6) (ret := (some .int)) (own := RX3) (by decide +kernel) rfl rfl (Nat.le_of_ble_eq_true rfl) ?_
  intro p_ e_ s m bel meth cd hE hK hP hD ls hl
  obtain ⟨hx, hb, hr, hml, hown, hts, hlocks⟩ := hE
  have hNW := hK.2
  have hl : lv_has ls 6 [(0, .ref x), (1, .int (nI i)), (2, .int (nI nm)), (3, .int (nI hw))] := hl
  refine lv_iload_n hx hb dX3_lose_0 rfl (lv_at hl 1 rfl) ?_
  -- m_isRow_t
  refine pw_cSp (As := [.int (nI i)]) (rest := []) ⟨hx, hb, hml, hown, hts⟩ (m_isRow_t l D cI cP cR i (by omega)) (va_cwS 1 hts gX3_lose_X3_isRow rfl rfl rfl (by decide +kernel) ⟨Nat.le_of_ble_eq_true rfl, Nat.le_of_ble_eq_true rfl⟩) hK rfl hl.1 rfl (Nat.le_of_ble_eq_true rfl) dX3_lose_1 ⟨Nat.zero_le _, Nat.zero_le _⟩ ?_
  refine lv_if_eq (tgt := 23) hx hb dX3_lose_4 (by decide) (fun c => absurd c (by decide)) (fun c => ?_)
  refine lv_iload_n hx hb dX3_lose_7 rfl (lv_at hl 2 rfl) ?_
  -- m_isName_t
  refine pw_cSp (As := [.int (nI nm)]) (rest := []) ⟨hx, hb, hml, hown, hts⟩ (m_isName_t l D cI cP cR nm (by omega)) (va_cwS 1 hts gX3_lose_X3_isName rfl rfl rfl (by decide +kernel) ⟨Nat.le_of_ble_eq_true rfl, Nat.le_of_ble_eq_true rfl⟩) hK rfl hl.1 rfl (Nat.le_of_ble_eq_true rfl) dX3_lose_8 ⟨Nat.zero_le _, Nat.zero_le _⟩ ?_
  refine lv_if_eq (tgt := 23) hx hb dX3_lose_11 (by decide) (fun c => absurd c (by decide)) (fun c => ?_)
  refine lv_iload_n hx hb dX3_lose_14 rfl (lv_at hl 3 rfl) ?_
  refine lv_iconst (v := nI 0) hx hb dX3_lose_15 (by decide) ?_
  refine lv_iconst (v := nI 2) hx hb dX3_lose_16 (by decide) ?_
  -- m_in_t
  refine pw_cSp (As := [.int (nI hw), .int (nI 0), .int (nI 2)]) (rest := []) ⟨hx, hb, hml, hown, hts⟩ (m_in_t l D cI cP cR (nI hw) (nI 0) (nI 2) (⟨pw_ge0 (by omega), (pw_leN (by omega) (by omega)).mpr (by omega)⟩)) (va_cwS 3 hts gX3_lose_X3_in rfl rfl rfl (by decide +kernel) ⟨Nat.le_of_ble_eq_true rfl, Nat.le_of_ble_eq_true rfl⟩) hK rfl hl.1 rfl (Nat.le_of_ble_eq_true rfl) dX3_lose_17 ⟨Nat.zero_le _, Nat.zero_le _⟩ ?_
  refine lv_if_ne (tgt := 25) hx hb dX3_lose_20 (by decide) (fun c => ?_) (fun c => absurd c (by decide))
  refine lv_aload_n hx hb dX3_lose_25 rfl (lv_at hl 0 rfl) ?_
  refine lv_iload_n hx hb dX3_lose_26 rfl (lv_at hl 1 rfl) ?_
  refine lv_iload_n hx hb dX3_lose_27 rfl (lv_at hl 2 rfl) ?_
  refine lv_iload_n hx hb dX3_lose_28 rfl (lv_at hl 3 rfl) ?_
  refine lv_iconst (v := nI 2) hx hb dX3_lose_29 (by decide) ?_
  refine pw_icmp_ne (tgt := 37) hx hb (by omega) (by omega) dX3_lose_30 (by decide) (fun c_1 => ?_) (fun c_1 => ?_)
  · have _h := c_1
    refine lv_iconst (v := nI 0) hx hb dX3_lose_37 (by decide) ?_
    -- m_placeBy
    refine pw_cVp (As := [.int (nI i), .int (nI nm), .int (nI 0)]) (rest := []) (wc := [(x, .inr (3, [.ref t, .ref z, .int (nI md), .ref rf, .ref rw, .ref pl, .ref hd, .ref ha, .ref lo, .ref ol, .ref as_])), (t, .inl (cI, 192, .inl (flT T))), (z, .inl (cI, 3, .inl (zI Z)))]) ⟨hx, hb, hml, hown, hts⟩ (m_placeBy l D cI cP cR x t z rf rw pl hd ha lo ol as_ md T Z i (nI nm) (nI 0) (by omega) (by omega)) (cwV 3 hts gX3_lose_X3_placeBy rfl rfl rfl (by decide +kernel) ⟨Nat.le_of_ble_eq_true rfl, Nat.le_of_ble_eq_true rfl⟩) hK hP hD [0, 1, 2] rfl (by decide) 0 rfl rfl rfl rfl hl.1 rfl (Nat.le_of_ble_eq_true rfl) dX3_lose_38 ⟨Nat.zero_le _, Nat.zero_le _⟩ ?_
    have hp2 := hp
    unfold laF at hp2
    rw [if_neg c_1] at hp2
    refine pw_top hp2 ?_
    refine lv_istore (lv' := [(4, .int (-1)), (0, .ref x), (1, .int (nI i)), (2, .int (nI nm)), (3, .int (nI hw))]) hx hb dX3_lose_41 hl (by decide) rfl (fun ls hl => ?_)
    refine lv_iload hx hb dX3_lose_43 (lv_at hl 0 rfl) ?_
    refine lv_iconst (v := -1) hx hb dX3_lose_45 (by decide) ?_
    refine lv_icmp_ne (tgt := 51) hx hb dX3_lose_46 (by decide) (fun c_2 => ?_) (fun c_2 => ?_)
    · exact absurd rfl c_2
    · have _h := c_2
      refine lv_iconst (v := nI 0) hx hb dX3_lose_49 (by decide) ?_
      exact pw_piret hx hb hr (rfl) hlocks dX3_lose_50 (rfl)
  · have _h := c_1
    refine lv_iconst (v := nI 1) hx hb dX3_lose_33 (by decide) ?_
    refine lv_goto (tgt := 38) hx hb dX3_lose_34 (by decide) ?_
    -- m_placeBy
    refine pw_cVp (As := [.int (nI i), .int (nI nm), .int (nI 1)]) (rest := []) (wc := [(x, .inr (3, [.ref t, .ref z, .int (nI md), .ref rf, .ref rw, .ref pl, .ref hd, .ref ha, .ref lo, .ref ol, .ref as_])), (t, .inl (cI, 192, .inl (flT T))), (z, .inl (cI, 3, .inl (zI Z)))]) ⟨hx, hb, hml, hown, hts⟩ (m_placeBy l D cI cP cR x t z rf rw pl hd ha lo ol as_ md T Z i (nI nm) (nI 1) (by omega) (by omega)) (cwV 3 hts gX3_lose_X3_placeBy rfl rfl rfl (by decide +kernel) ⟨Nat.le_of_ble_eq_true rfl, Nat.le_of_ble_eq_true rfl⟩) hK hP hD [0, 1, 2] rfl (by decide) 0 rfl rfl rfl rfl hl.1 rfl (Nat.le_of_ble_eq_true rfl) dX3_lose_38 ⟨Nat.zero_le _, Nat.zero_le _⟩ ?_
    have hp2 := hp
    unfold laF at hp2
    rw [if_pos c_1] at hp2
    refine pw_top hp2 ?_
    refine lv_istore (lv' := [(4, .int (-1)), (0, .ref x), (1, .int (nI i)), (2, .int (nI nm)), (3, .int (nI hw))]) hx hb dX3_lose_41 hl (by decide) rfl (fun ls hl => ?_)
    refine lv_iload hx hb dX3_lose_43 (lv_at hl 0 rfl) ?_
    refine lv_iconst (v := -1) hx hb dX3_lose_45 (by decide) ?_
    refine lv_icmp_ne (tgt := 51) hx hb dX3_lose_46 (by decide) (fun c_3 => ?_) (fun c_3 => ?_)
    · exact absurd rfl c_3
    · have _h := c_3
      refine lv_iconst (v := nI 0) hx hb dX3_lose_49 (by decide) ?_
      exact pw_piret hx hb hr (rfl) hlocks dX3_lose_50 (rfl)
set_option maxHeartbeats 4000000 in
set_option maxRecDepth 100000 in
theorem n_lose (l : Launch) (D : va_G) (cI cP cR : ClassId) (x t z rf rw pl hd ha lo ol as_ md : Nat) (T : Nat → Nat → Int32) (Z : Nat → Nat) (RF R P Hd HA Lo Ol AS : Nat → Int32) (i : Nat) (hi : i < 3) (hz : Z i ≤ 60) (nm hw : Nat) (hnm : nm < 10) (hw2 : hw ≤ 2) (j : Nat) (hj : j < Z i) (hp : plc (T i) (nI nm) (laF hw) (Z i) = nI j) : pw_Mm l yX3_lose wsX3_lose ({ frames := 2, cells := 0, slots := 0, locals := 47 } : Room) D cI cP cR [.ref x, .int (nI i), .int (nI nm), .int (nI hw)] ([(x, .inr (3, [.ref t, .ref z, .int (nI md), .ref rf, .ref rw, .ref pl, .ref hd, .ref ha, .ref lo, .ref ol, .ref as_])), (t, .inl (cI, 192, .inl (flT T))), (z, .inl (cI, 3, .inl (zI Z))), (rf, .inl (cI, 4, .inl (RF))), (rw, .inl (cI, 4, .inl (R))), (pl, .inl (cI, 4, .inl (P))), (hd, .inl (cI, 4, .inl (Hd))), (ha, .inl (cI, 4, .inl (HA))), (lo, .inl (cI, 4, .inl (Lo))), (ol, .inl (cI, 4, .inl (Ol))), (as_, .inl (cI, 64, .inl (AS)))]) (fun v w => v = some (.int (nI 1)) ∧ w = [(x, .inr (3, [.ref t, .ref z, .int (nI md), .ref rf, .ref rw, .ref pl, .ref hd, .ref ha, .ref lo, .ref ol, .ref as_])), (t, .inl (cI, 192, .inl (flT (upR T i (clsF (T i) j (Z i)))))), (z, .inl (cI, 3, .inl (zI (updN Z i (Z i - 1))))), (rf, .inl (cI, 4, .inl (RF))), (rw, .inl (cI, 4, .inl (R))), (pl, .inl (cI, 4, .inl (P))), (hd, .inl (cI, 4, .inl (Hd))), (ha, .inl (cI, 4, .inl (HA))), (lo, .inl (cI, 4, .inl (Lo))), (ol, .inl (cI, 4, .inl (agF R Ol (nI i) (-1)))), (as_, .inl (cI, 64, .inl (AS)))]) := by
  refine pw_ofm (cc := cX3_lose) (maxL := 6) (ret := (some .int)) (own := RX3) (by decide +kernel) rfl rfl (Nat.le_of_ble_eq_true rfl) ?_
  intro p_ e_ s m bel meth cd A hE hK hP hD hA hS ls hl
  obtain ⟨hx, hb, hr, hml, hown, hts, hlocks⟩ := hE
  have hNW := hK.2
  have hl : lv_has ls 6 [(0, .ref x), (1, .int (nI i)), (2, .int (nI nm)), (3, .int (nI hw))] := hl
  refine lv_iload_n hx hb dX3_lose_0 rfl (lv_at hl 1 rfl) ?_
  -- m_isRow_t
  refine pw_cSp (As := [.int (nI i)]) (rest := []) ⟨hx, hb, hml, hown, hts⟩ (m_isRow_t l D cI cP cR i (by omega)) (va_cwS 1 hts gX3_lose_X3_isRow rfl rfl rfl (by decide +kernel) ⟨Nat.le_of_ble_eq_true rfl, Nat.le_of_ble_eq_true rfl⟩) hK rfl hl.1 rfl (Nat.le_of_ble_eq_true rfl) dX3_lose_1 ⟨Nat.zero_le _, Nat.zero_le _⟩ ?_
  refine lv_if_eq (tgt := 23) hx hb dX3_lose_4 (by decide) (fun c => absurd c (by decide)) (fun c => ?_)
  refine lv_iload_n hx hb dX3_lose_7 rfl (lv_at hl 2 rfl) ?_
  -- m_isName_t
  refine pw_cSp (As := [.int (nI nm)]) (rest := []) ⟨hx, hb, hml, hown, hts⟩ (m_isName_t l D cI cP cR nm (by omega)) (va_cwS 1 hts gX3_lose_X3_isName rfl rfl rfl (by decide +kernel) ⟨Nat.le_of_ble_eq_true rfl, Nat.le_of_ble_eq_true rfl⟩) hK rfl hl.1 rfl (Nat.le_of_ble_eq_true rfl) dX3_lose_8 ⟨Nat.zero_le _, Nat.zero_le _⟩ ?_
  refine lv_if_eq (tgt := 23) hx hb dX3_lose_11 (by decide) (fun c => absurd c (by decide)) (fun c => ?_)
  refine lv_iload_n hx hb dX3_lose_14 rfl (lv_at hl 3 rfl) ?_
  refine lv_iconst (v := nI 0) hx hb dX3_lose_15 (by decide) ?_
  refine lv_iconst (v := nI 2) hx hb dX3_lose_16 (by decide) ?_
  -- m_in_t
  refine pw_cSp (As := [.int (nI hw), .int (nI 0), .int (nI 2)]) (rest := []) ⟨hx, hb, hml, hown, hts⟩ (m_in_t l D cI cP cR (nI hw) (nI 0) (nI 2) (⟨pw_ge0 (by omega), (pw_leN (by omega) (by omega)).mpr (by omega)⟩)) (va_cwS 3 hts gX3_lose_X3_in rfl rfl rfl (by decide +kernel) ⟨Nat.le_of_ble_eq_true rfl, Nat.le_of_ble_eq_true rfl⟩) hK rfl hl.1 rfl (Nat.le_of_ble_eq_true rfl) dX3_lose_17 ⟨Nat.zero_le _, Nat.zero_le _⟩ ?_
  refine lv_if_ne (tgt := 25) hx hb dX3_lose_20 (by decide) (fun c => ?_) (fun c => absurd c (by decide))
  refine lv_aload_n hx hb dX3_lose_25 rfl (lv_at hl 0 rfl) ?_
  refine lv_iload_n hx hb dX3_lose_26 rfl (lv_at hl 1 rfl) ?_
  refine lv_iload_n hx hb dX3_lose_27 rfl (lv_at hl 2 rfl) ?_
  refine lv_iload_n hx hb dX3_lose_28 rfl (lv_at hl 3 rfl) ?_
  refine lv_iconst (v := nI 2) hx hb dX3_lose_29 (by decide) ?_
  refine pw_icmp_ne (tgt := 37) hx hb (by omega) (by omega) dX3_lose_30 (by decide) (fun c_1 => ?_) (fun c_1 => ?_)
  · have _h := c_1
    refine lv_iconst (v := nI 0) hx hb dX3_lose_37 (by decide) ?_
    -- m_placeBy
    refine pw_cVp (As := [.int (nI i), .int (nI nm), .int (nI 0)]) (rest := []) (wc := [(x, .inr (3, [.ref t, .ref z, .int (nI md), .ref rf, .ref rw, .ref pl, .ref hd, .ref ha, .ref lo, .ref ol, .ref as_])), (t, .inl (cI, 192, .inl (flT T))), (z, .inl (cI, 3, .inl (zI Z)))]) ⟨hx, hb, hml, hown, hts⟩ (m_placeBy l D cI cP cR x t z rf rw pl hd ha lo ol as_ md T Z i (nI nm) (nI 0) (by omega) (by omega)) (cwV 3 hts gX3_lose_X3_placeBy rfl rfl rfl (by decide +kernel) ⟨Nat.le_of_ble_eq_true rfl, Nat.le_of_ble_eq_true rfl⟩) hK hP hD [0, 1, 2] rfl (by decide) 0 rfl rfl rfl rfl hl.1 rfl (Nat.le_of_ble_eq_true rfl) dX3_lose_38 ⟨Nat.zero_le _, Nat.zero_le _⟩ ?_
    have hp2 := hp
    unfold laF at hp2
    rw [if_neg c_1] at hp2
    refine pw_top hp2 ?_
    refine lv_istore (lv' := [(4, .int (nI j)), (0, .ref x), (1, .int (nI i)), (2, .int (nI nm)), (3, .int (nI hw))]) hx hb dX3_lose_41 hl (by decide) rfl (fun ls hl => ?_)
    refine lv_iload hx hb dX3_lose_43 (lv_at hl 0 rfl) ?_
    refine lv_iconst (v := -1) hx hb dX3_lose_45 (by decide) ?_
    refine lv_icmp_ne (tgt := 51) hx hb dX3_lose_46 (by decide) (fun c_2 => ?_) (fun c_2 => ?_)
    · have _h := c_2
      refine lv_aload_n hx hb dX3_lose_51 rfl (lv_at hl 1 rfl) ?_
      refine lv_iload_n hx hb dX3_lose_52 rfl (lv_at hl 2 rfl) ?_
      refine lv_iload hx hb dX3_lose_53 (lv_at hl 0 rfl) ?_
      -- m_close
      refine pw_cVm (As := [.int (nI i), .int (nI j)]) (rest := []) (wc := [(x, .inr (3, [.ref t, .ref z, .int (nI md), .ref rf, .ref rw, .ref pl, .ref hd, .ref ha, .ref lo, .ref ol, .ref as_])), (t, .inl (cI, 192, .inl (flT T))), (z, .inl (cI, 3, .inl (zI Z)))]) (wr := [(rf, .inl (cI, 4, .inl (RF))), (rw, .inl (cI, 4, .inl (R))), (pl, .inl (cI, 4, .inl (P))), (hd, .inl (cI, 4, .inl (Hd))), (ha, .inl (cI, 4, .inl (HA))), (lo, .inl (cI, 4, .inl (Lo))), (ol, .inl (cI, 4, .inl (Ol))), (as_, .inl (cI, 64, .inl (AS)))]) ⟨hx, hb, hml, hown, hts⟩ (m_close l D cI cP cR x t z rf rw pl hd ha lo ol as_ md T Z i j (by omega) (by omega) (by omega)) (cwV 2 hts gX3_lose_X3_close rfl rfl rfl (by decide +kernel) ⟨Nat.le_of_ble_eq_true rfl, Nat.le_of_ble_eq_true rfl⟩) hK hP hD hS hA [0, 1, 2] [3, 4, 5, 6, 7, 8, 9, 10] rfl rfl (by decide) (by decide) (by decide) 0 rfl rfl rfl rfl hl.1 rfl (Nat.le_of_ble_eq_true rfl) dX3_lose_55 ⟨Nat.zero_le _, Nat.zero_le _⟩ (fun v1 w1 H locs hq hP hD hS => ?_)
      rcases hq with ⟨rfl, rfl⟩
      have hP : va_P D vwCl ([(rf, .inl (cI, 4, .inl (RF))), (rw, .inl (cI, 4, .inl (R))), (pl, .inl (cI, 4, .inl (P))), (hd, .inl (cI, 4, .inl (Hd))), (ha, .inl (cI, 4, .inl (HA))), (lo, .inl (cI, 4, .inl (Lo))), (ol, .inl (cI, 4, .inl (Ol))), (as_, .inl (cI, 64, .inl (AS))), (x, .inr (3, [.ref t, .ref z, .int (nI md), .ref rf, .ref rw, .ref pl, .ref hd, .ref ha, .ref lo, .ref ol, .ref as_])), (t, .inl (cI, 192, .inl (flT (upR T i (clsF (T i) j (Z i)))))), (z, .inl (cI, 3, .inl (zI (updN Z i (Z i - 1)))))]) H := hP
      have hD : va_D A ([(rf, .inl (cI, 4, .inl (RF))), (rw, .inl (cI, 4, .inl (R))), (pl, .inl (cI, 4, .inl (P))), (hd, .inl (cI, 4, .inl (Hd))), (ha, .inl (cI, 4, .inl (HA))), (lo, .inl (cI, 4, .inl (Lo))), (ol, .inl (cI, 4, .inl (Ol))), (as_, .inl (cI, 64, .inl (AS))), (x, .inr (3, [.ref t, .ref z, .int (nI md), .ref rf, .ref rw, .ref pl, .ref hd, .ref ha, .ref lo, .ref ol, .ref as_])), (t, .inl (cI, 192, .inl (flT (upR T i (clsF (T i) j (Z i)))))), (z, .inl (cI, 3, .inl (zI (updN Z i (Z i - 1)))))]) := hD
      refine W.eq (g2 := F0 m 58 ls [.int (T i j)]) rfl ?_
      refine lv_istore (lv' := [(5, .int (T i j)), (4, .int (nI j)), (0, .ref x), (1, .int (nI i)), (2, .int (nI nm)), (3, .int (nI hw))]) hx hb dX3_lose_58 hl (by decide) rfl (fun ls hl => ?_)
      refine lv_aload_n hx hb dX3_lose_60 rfl (lv_at hl 2 rfl) ?_
      refine lv_iload_n hx hb dX3_lose_61 rfl (lv_at hl 3 rfl) ?_
      refine lv_iconst (v := -1) hx hb dX3_lose_62 (by decide) ?_
      -- m_age
      refine pw_cVm (As := [.int (nI i), .int (-1)]) (rest := []) (wc := [(x, .inr (3, [.ref t, .ref z, .int (nI md), .ref rf, .ref rw, .ref pl, .ref hd, .ref ha, .ref lo, .ref ol, .ref as_])), (rw, .inl (cI, 4, .inl (R))), (ol, .inl (cI, 4, .inl (Ol)))]) (wr := [(rf, .inl (cI, 4, .inl (RF))), (pl, .inl (cI, 4, .inl (P))), (hd, .inl (cI, 4, .inl (Hd))), (ha, .inl (cI, 4, .inl (HA))), (lo, .inl (cI, 4, .inl (Lo))), (as_, .inl (cI, 64, .inl (AS))), (t, .inl (cI, 192, .inl (flT (upR T i (clsF (T i) j (Z i)))))), (z, .inl (cI, 3, .inl (zI (updN Z i (Z i - 1)))))]) ⟨hx, hb, hml, hown, hts⟩ (m_age l D cI cP cR x t z rf rw pl hd ha lo ol as_ md R Ol i (-1)) (cwV 2 hts gX3_lose_X3_age rfl rfl rfl (by decide +kernel) ⟨Nat.le_of_ble_eq_true rfl, Nat.le_of_ble_eq_true rfl⟩) hK hP hD hS hA [8, 1, 6] [0, 2, 3, 4, 5, 7, 9, 10] rfl rfl (by decide) (by decide) (by decide) 0 rfl rfl rfl rfl hl.1 rfl (Nat.le_of_ble_eq_true rfl) dX3_lose_63 ⟨Nat.zero_le _, Nat.zero_le _⟩ (fun v1 w1 H locs hq hP hD hS => ?_)
      rcases hq with ⟨rfl, rfl⟩
      have hP : va_P D vwCl ([(rf, .inl (cI, 4, .inl (RF))), (pl, .inl (cI, 4, .inl (P))), (hd, .inl (cI, 4, .inl (Hd))), (ha, .inl (cI, 4, .inl (HA))), (lo, .inl (cI, 4, .inl (Lo))), (as_, .inl (cI, 64, .inl (AS))), (t, .inl (cI, 192, .inl (flT (upR T i (clsF (T i) j (Z i)))))), (z, .inl (cI, 3, .inl (zI (updN Z i (Z i - 1))))), (x, .inr (3, [.ref t, .ref z, .int (nI md), .ref rf, .ref rw, .ref pl, .ref hd, .ref ha, .ref lo, .ref ol, .ref as_])), (rw, .inl (cI, 4, .inl (R))), (ol, .inl (cI, 4, .inl (agF R Ol (nI i) (-1))))]) H := hP
      have hD : va_D A ([(rf, .inl (cI, 4, .inl (RF))), (pl, .inl (cI, 4, .inl (P))), (hd, .inl (cI, 4, .inl (Hd))), (ha, .inl (cI, 4, .inl (HA))), (lo, .inl (cI, 4, .inl (Lo))), (as_, .inl (cI, 64, .inl (AS))), (t, .inl (cI, 192, .inl (flT (upR T i (clsF (T i) j (Z i)))))), (z, .inl (cI, 3, .inl (zI (updN Z i (Z i - 1))))), (x, .inr (3, [.ref t, .ref z, .int (nI md), .ref rf, .ref rw, .ref pl, .ref hd, .ref ha, .ref lo, .ref ol, .ref as_])), (rw, .inl (cI, 4, .inl (R))), (ol, .inl (cI, 4, .inl (agF R Ol (nI i) (-1))))]) := hD
      refine W.eq (g2 := F0 m 66 ls []) rfl ?_
      refine lv_iconst (v := nI 1) hx hb dX3_lose_66 (by decide) ?_
      have hP := hP.sub (ws' := [(x, .inr (3, [.ref t, .ref z, .int (nI md), .ref rf, .ref rw, .ref pl, .ref hd, .ref ha, .ref lo, .ref ol, .ref as_])), (t, .inl (cI, 192, .inl (flT (upR T i (clsF (T i) j (Z i)))))), (z, .inl (cI, 3, .inl (zI (updN Z i (Z i - 1))))), (rf, .inl (cI, 4, .inl (RF))), (rw, .inl (cI, 4, .inl (R))), (pl, .inl (cI, 4, .inl (P))), (hd, .inl (cI, 4, .inl (Hd))), (ha, .inl (cI, 4, .inl (HA))), (lo, .inl (cI, 4, .inl (Lo))), (ol, .inl (cI, 4, .inl (agF R Ol (nI i) (-1)))), (as_, .inl (cI, 64, .inl (AS)))]) [8, 6, 7, 0, 9, 1, 2, 3, 4, 10, 5] rfl
      have hD := hD.sub (ws' := [(x, .inr (3, [.ref t, .ref z, .int (nI md), .ref rf, .ref rw, .ref pl, .ref hd, .ref ha, .ref lo, .ref ol, .ref as_])), (t, .inl (cI, 192, .inl (flT (upR T i (clsF (T i) j (Z i)))))), (z, .inl (cI, 3, .inl (zI (updN Z i (Z i - 1))))), (rf, .inl (cI, 4, .inl (RF))), (rw, .inl (cI, 4, .inl (R))), (pl, .inl (cI, 4, .inl (P))), (hd, .inl (cI, 4, .inl (Hd))), (ha, .inl (cI, 4, .inl (HA))), (lo, .inl (cI, 4, .inl (Lo))), (ol, .inl (cI, 4, .inl (agF R Ol (nI i) (-1)))), (as_, .inl (cI, 64, .inl (AS)))]) [8, 6, 7, 0, 9, 1, 2, 3, 4, 10, 5] (by decide) rfl
      exact pw_iret hx hb hr (rfl) hlocks dX3_lose_67 hS hP hD (⟨rfl, rfl⟩)
    · exact absurd c_2 (pw_nm1 (by omega))
  · have _h := c_1
    refine lv_iconst (v := nI 1) hx hb dX3_lose_33 (by decide) ?_
    refine lv_goto (tgt := 38) hx hb dX3_lose_34 (by decide) ?_
    -- m_placeBy
    refine pw_cVp (As := [.int (nI i), .int (nI nm), .int (nI 1)]) (rest := []) (wc := [(x, .inr (3, [.ref t, .ref z, .int (nI md), .ref rf, .ref rw, .ref pl, .ref hd, .ref ha, .ref lo, .ref ol, .ref as_])), (t, .inl (cI, 192, .inl (flT T))), (z, .inl (cI, 3, .inl (zI Z)))]) ⟨hx, hb, hml, hown, hts⟩ (m_placeBy l D cI cP cR x t z rf rw pl hd ha lo ol as_ md T Z i (nI nm) (nI 1) (by omega) (by omega)) (cwV 3 hts gX3_lose_X3_placeBy rfl rfl rfl (by decide +kernel) ⟨Nat.le_of_ble_eq_true rfl, Nat.le_of_ble_eq_true rfl⟩) hK hP hD [0, 1, 2] rfl (by decide) 0 rfl rfl rfl rfl hl.1 rfl (Nat.le_of_ble_eq_true rfl) dX3_lose_38 ⟨Nat.zero_le _, Nat.zero_le _⟩ ?_
    have hp2 := hp
    unfold laF at hp2
    rw [if_pos c_1] at hp2
    refine pw_top hp2 ?_
    refine lv_istore (lv' := [(4, .int (nI j)), (0, .ref x), (1, .int (nI i)), (2, .int (nI nm)), (3, .int (nI hw))]) hx hb dX3_lose_41 hl (by decide) rfl (fun ls hl => ?_)
    refine lv_iload hx hb dX3_lose_43 (lv_at hl 0 rfl) ?_
    refine lv_iconst (v := -1) hx hb dX3_lose_45 (by decide) ?_
    refine lv_icmp_ne (tgt := 51) hx hb dX3_lose_46 (by decide) (fun c_3 => ?_) (fun c_3 => ?_)
    · have _h := c_3
      refine lv_aload_n hx hb dX3_lose_51 rfl (lv_at hl 1 rfl) ?_
      refine lv_iload_n hx hb dX3_lose_52 rfl (lv_at hl 2 rfl) ?_
      refine lv_iload hx hb dX3_lose_53 (lv_at hl 0 rfl) ?_
      -- m_close
      refine pw_cVm (As := [.int (nI i), .int (nI j)]) (rest := []) (wc := [(x, .inr (3, [.ref t, .ref z, .int (nI md), .ref rf, .ref rw, .ref pl, .ref hd, .ref ha, .ref lo, .ref ol, .ref as_])), (t, .inl (cI, 192, .inl (flT T))), (z, .inl (cI, 3, .inl (zI Z)))]) (wr := [(rf, .inl (cI, 4, .inl (RF))), (rw, .inl (cI, 4, .inl (R))), (pl, .inl (cI, 4, .inl (P))), (hd, .inl (cI, 4, .inl (Hd))), (ha, .inl (cI, 4, .inl (HA))), (lo, .inl (cI, 4, .inl (Lo))), (ol, .inl (cI, 4, .inl (Ol))), (as_, .inl (cI, 64, .inl (AS)))]) ⟨hx, hb, hml, hown, hts⟩ (m_close l D cI cP cR x t z rf rw pl hd ha lo ol as_ md T Z i j (by omega) (by omega) (by omega)) (cwV 2 hts gX3_lose_X3_close rfl rfl rfl (by decide +kernel) ⟨Nat.le_of_ble_eq_true rfl, Nat.le_of_ble_eq_true rfl⟩) hK hP hD hS hA [0, 1, 2] [3, 4, 5, 6, 7, 8, 9, 10] rfl rfl (by decide) (by decide) (by decide) 0 rfl rfl rfl rfl hl.1 rfl (Nat.le_of_ble_eq_true rfl) dX3_lose_55 ⟨Nat.zero_le _, Nat.zero_le _⟩ (fun v1 w1 H locs hq hP hD hS => ?_)
      rcases hq with ⟨rfl, rfl⟩
      have hP : va_P D vwCl ([(rf, .inl (cI, 4, .inl (RF))), (rw, .inl (cI, 4, .inl (R))), (pl, .inl (cI, 4, .inl (P))), (hd, .inl (cI, 4, .inl (Hd))), (ha, .inl (cI, 4, .inl (HA))), (lo, .inl (cI, 4, .inl (Lo))), (ol, .inl (cI, 4, .inl (Ol))), (as_, .inl (cI, 64, .inl (AS))), (x, .inr (3, [.ref t, .ref z, .int (nI md), .ref rf, .ref rw, .ref pl, .ref hd, .ref ha, .ref lo, .ref ol, .ref as_])), (t, .inl (cI, 192, .inl (flT (upR T i (clsF (T i) j (Z i)))))), (z, .inl (cI, 3, .inl (zI (updN Z i (Z i - 1)))))]) H := hP
      have hD : va_D A ([(rf, .inl (cI, 4, .inl (RF))), (rw, .inl (cI, 4, .inl (R))), (pl, .inl (cI, 4, .inl (P))), (hd, .inl (cI, 4, .inl (Hd))), (ha, .inl (cI, 4, .inl (HA))), (lo, .inl (cI, 4, .inl (Lo))), (ol, .inl (cI, 4, .inl (Ol))), (as_, .inl (cI, 64, .inl (AS))), (x, .inr (3, [.ref t, .ref z, .int (nI md), .ref rf, .ref rw, .ref pl, .ref hd, .ref ha, .ref lo, .ref ol, .ref as_])), (t, .inl (cI, 192, .inl (flT (upR T i (clsF (T i) j (Z i)))))), (z, .inl (cI, 3, .inl (zI (updN Z i (Z i - 1)))))]) := hD
      refine W.eq (g2 := F0 m 58 ls [.int (T i j)]) rfl ?_
      refine lv_istore (lv' := [(5, .int (T i j)), (4, .int (nI j)), (0, .ref x), (1, .int (nI i)), (2, .int (nI nm)), (3, .int (nI hw))]) hx hb dX3_lose_58 hl (by decide) rfl (fun ls hl => ?_)
      refine lv_aload_n hx hb dX3_lose_60 rfl (lv_at hl 2 rfl) ?_
      refine lv_iload_n hx hb dX3_lose_61 rfl (lv_at hl 3 rfl) ?_
      refine lv_iconst (v := -1) hx hb dX3_lose_62 (by decide) ?_
      -- m_age
      refine pw_cVm (As := [.int (nI i), .int (-1)]) (rest := []) (wc := [(x, .inr (3, [.ref t, .ref z, .int (nI md), .ref rf, .ref rw, .ref pl, .ref hd, .ref ha, .ref lo, .ref ol, .ref as_])), (rw, .inl (cI, 4, .inl (R))), (ol, .inl (cI, 4, .inl (Ol)))]) (wr := [(rf, .inl (cI, 4, .inl (RF))), (pl, .inl (cI, 4, .inl (P))), (hd, .inl (cI, 4, .inl (Hd))), (ha, .inl (cI, 4, .inl (HA))), (lo, .inl (cI, 4, .inl (Lo))), (as_, .inl (cI, 64, .inl (AS))), (t, .inl (cI, 192, .inl (flT (upR T i (clsF (T i) j (Z i)))))), (z, .inl (cI, 3, .inl (zI (updN Z i (Z i - 1)))))]) ⟨hx, hb, hml, hown, hts⟩ (m_age l D cI cP cR x t z rf rw pl hd ha lo ol as_ md R Ol i (-1)) (cwV 2 hts gX3_lose_X3_age rfl rfl rfl (by decide +kernel) ⟨Nat.le_of_ble_eq_true rfl, Nat.le_of_ble_eq_true rfl⟩) hK hP hD hS hA [8, 1, 6] [0, 2, 3, 4, 5, 7, 9, 10] rfl rfl (by decide) (by decide) (by decide) 0 rfl rfl rfl rfl hl.1 rfl (Nat.le_of_ble_eq_true rfl) dX3_lose_63 ⟨Nat.zero_le _, Nat.zero_le _⟩ (fun v1 w1 H locs hq hP hD hS => ?_)
      rcases hq with ⟨rfl, rfl⟩
      have hP : va_P D vwCl ([(rf, .inl (cI, 4, .inl (RF))), (pl, .inl (cI, 4, .inl (P))), (hd, .inl (cI, 4, .inl (Hd))), (ha, .inl (cI, 4, .inl (HA))), (lo, .inl (cI, 4, .inl (Lo))), (as_, .inl (cI, 64, .inl (AS))), (t, .inl (cI, 192, .inl (flT (upR T i (clsF (T i) j (Z i)))))), (z, .inl (cI, 3, .inl (zI (updN Z i (Z i - 1))))), (x, .inr (3, [.ref t, .ref z, .int (nI md), .ref rf, .ref rw, .ref pl, .ref hd, .ref ha, .ref lo, .ref ol, .ref as_])), (rw, .inl (cI, 4, .inl (R))), (ol, .inl (cI, 4, .inl (agF R Ol (nI i) (-1))))]) H := hP
      have hD : va_D A ([(rf, .inl (cI, 4, .inl (RF))), (pl, .inl (cI, 4, .inl (P))), (hd, .inl (cI, 4, .inl (Hd))), (ha, .inl (cI, 4, .inl (HA))), (lo, .inl (cI, 4, .inl (Lo))), (as_, .inl (cI, 64, .inl (AS))), (t, .inl (cI, 192, .inl (flT (upR T i (clsF (T i) j (Z i)))))), (z, .inl (cI, 3, .inl (zI (updN Z i (Z i - 1))))), (x, .inr (3, [.ref t, .ref z, .int (nI md), .ref rf, .ref rw, .ref pl, .ref hd, .ref ha, .ref lo, .ref ol, .ref as_])), (rw, .inl (cI, 4, .inl (R))), (ol, .inl (cI, 4, .inl (agF R Ol (nI i) (-1))))]) := hD
      refine W.eq (g2 := F0 m 66 ls []) rfl ?_
      refine lv_iconst (v := nI 1) hx hb dX3_lose_66 (by decide) ?_
      have hP := hP.sub (ws' := [(x, .inr (3, [.ref t, .ref z, .int (nI md), .ref rf, .ref rw, .ref pl, .ref hd, .ref ha, .ref lo, .ref ol, .ref as_])), (t, .inl (cI, 192, .inl (flT (upR T i (clsF (T i) j (Z i)))))), (z, .inl (cI, 3, .inl (zI (updN Z i (Z i - 1))))), (rf, .inl (cI, 4, .inl (RF))), (rw, .inl (cI, 4, .inl (R))), (pl, .inl (cI, 4, .inl (P))), (hd, .inl (cI, 4, .inl (Hd))), (ha, .inl (cI, 4, .inl (HA))), (lo, .inl (cI, 4, .inl (Lo))), (ol, .inl (cI, 4, .inl (agF R Ol (nI i) (-1)))), (as_, .inl (cI, 64, .inl (AS)))]) [8, 6, 7, 0, 9, 1, 2, 3, 4, 10, 5] rfl
      have hD := hD.sub (ws' := [(x, .inr (3, [.ref t, .ref z, .int (nI md), .ref rf, .ref rw, .ref pl, .ref hd, .ref ha, .ref lo, .ref ol, .ref as_])), (t, .inl (cI, 192, .inl (flT (upR T i (clsF (T i) j (Z i)))))), (z, .inl (cI, 3, .inl (zI (updN Z i (Z i - 1))))), (rf, .inl (cI, 4, .inl (RF))), (rw, .inl (cI, 4, .inl (R))), (pl, .inl (cI, 4, .inl (P))), (hd, .inl (cI, 4, .inl (Hd))), (ha, .inl (cI, 4, .inl (HA))), (lo, .inl (cI, 4, .inl (Lo))), (ol, .inl (cI, 4, .inl (agF R Ol (nI i) (-1)))), (as_, .inl (cI, 64, .inl (AS)))]) [8, 6, 7, 0, 9, 1, 2, 3, 4, 10, 5] (by decide) rfl
      exact pw_iret hx hb hr (rfl) hlocks dX3_lose_67 hS hP hD (⟨rfl, rfl⟩)
    · exact absurd c_3 (pw_nm1 (by omega))
set_option maxHeartbeats 4000000 in
set_option maxRecDepth 100000 in
theorem n_clear_x (l : Launch) (D : va_G) (cI cP cR : ClassId) (x t z rf rw pl hd ha lo ol as_ md : Nat) (T : Nat → Nat → Int32) (Z : Nat → Nat) (RF R P Hd HA Lo Ol AS : Nat → Int32) (row : Int32) (hx_row : ¬ (0 ≤ row ∧ row < nI 3)) : pw_Mp l yX3_clear wsX3_clear ({ frames := 2, cells := 0, slots := 0, locals := 47 } : Room) D cI cP cR [.ref x, .int (row)] ([(x, .inr (3, [.ref t, .ref z, .int (nI md), .ref rf, .ref rw, .ref pl, .ref hd, .ref ha, .ref lo, .ref ol, .ref as_])), (t, .inl (cI, 192, .inl (flT T))), (z, .inl (cI, 3, .inl (zI Z))), (rf, .inl (cI, 4, .inl (RF))), (rw, .inl (cI, 4, .inl (R))), (pl, .inl (cI, 4, .inl (P))), (hd, .inl (cI, 4, .inl (Hd))), (ha, .inl (cI, 4, .inl (HA))), (lo, .inl (cI, 4, .inl (Lo))), (ol, .inl (cI, 4, .inl (Ol))), (as_, .inl (cI, 64, .inl (AS)))]) (.int (-1)) := by
  refine pw_ofp (cc := cX3_clear) (maxL := 3) (ret := (some .int)) (own := RX3) (by decide +kernel) rfl rfl (Nat.le_of_ble_eq_true rfl) ?_
  intro p_ e_ s m bel meth cd hE hK hP hD ls hl
  obtain ⟨hx, hb, hr, hml, hown, hts, hlocks⟩ := hE
  have hNW := hK.2
  have hl : lv_has ls 3 [(0, .ref x), (1, .int (row))] := hl
  refine lv_iload_n hx hb dX3_clear_0 rfl (lv_at hl 1 rfl) ?_
  -- m_isRow_f
  refine pw_cSp (As := [.int (row)]) (rest := []) ⟨hx, hb, hml, hown, hts⟩ (m_isRow_f l D cI cP cR row hx_row) (va_cwS 1 hts gX3_clear_X3_isRow rfl rfl rfl (by decide +kernel) ⟨Nat.le_of_ble_eq_true rfl, Nat.le_of_ble_eq_true rfl⟩) hK rfl hl.1 rfl (Nat.le_of_ble_eq_true rfl) dX3_clear_1 ⟨Nat.zero_le _, Nat.zero_le _⟩ ?_
  refine lv_if_ne (tgt := 9) hx hb dX3_clear_4 (by decide) (fun c => absurd c (by decide)) (fun c => ?_)
  refine lv_iconst (v := -1) hx hb dX3_clear_7 (by decide) ?_
  exact pw_piret hx hb hr (rfl) hlocks dX3_clear_8 (rfl)
set_option maxHeartbeats 4000000 in
set_option maxRecDepth 100000 in
theorem n_turn_x (l : Launch) (D : va_G) (cI cP cR : ClassId) (x t z rf rw pl hd ha lo ol as_ md : Nat) (T : Nat → Nat → Int32) (Z : Nat → Nat) (RF R P Hd HA Lo Ol AS : Nat → Int32) (row : Int32) (hx_row : ¬ (0 ≤ row ∧ row < nI 3)) : pw_Mp l yX3_turn wsX3_turn ({ frames := 2, cells := 0, slots := 0, locals := 47 } : Room) D cI cP cR [.ref x, .int (row)] ([(x, .inr (3, [.ref t, .ref z, .int (nI md), .ref rf, .ref rw, .ref pl, .ref hd, .ref ha, .ref lo, .ref ol, .ref as_])), (t, .inl (cI, 192, .inl (flT T))), (z, .inl (cI, 3, .inl (zI Z))), (rf, .inl (cI, 4, .inl (RF))), (rw, .inl (cI, 4, .inl (R))), (pl, .inl (cI, 4, .inl (P))), (hd, .inl (cI, 4, .inl (Hd))), (ha, .inl (cI, 4, .inl (HA))), (lo, .inl (cI, 4, .inl (Lo))), (ol, .inl (cI, 4, .inl (Ol))), (as_, .inl (cI, 64, .inl (AS)))]) (.int (-1)) := by
  refine pw_ofp (cc := cX3_turn) (maxL := 4) (ret := (some .int)) (own := RX3) (by decide +kernel) rfl rfl (Nat.le_of_ble_eq_true rfl) ?_
  intro p_ e_ s m bel meth cd hE hK hP hD ls hl
  obtain ⟨hx, hb, hr, hml, hown, hts, hlocks⟩ := hE
  have hNW := hK.2
  have hl : lv_has ls 4 [(0, .ref x), (1, .int (row))] := hl
  refine lv_iload_n hx hb dX3_turn_0 rfl (lv_at hl 1 rfl) ?_
  -- m_isRow_f
  refine pw_cSp (As := [.int (row)]) (rest := []) ⟨hx, hb, hml, hown, hts⟩ (m_isRow_f l D cI cP cR row hx_row) (va_cwS 1 hts gX3_turn_X3_isRow rfl rfl rfl (by decide +kernel) ⟨Nat.le_of_ble_eq_true rfl, Nat.le_of_ble_eq_true rfl⟩) hK rfl hl.1 rfl (Nat.le_of_ble_eq_true rfl) dX3_turn_1 ⟨Nat.zero_le _, Nat.zero_le _⟩ ?_
  refine lv_if_ne (tgt := 9) hx hb dX3_turn_4 (by decide) (fun c => absurd c (by decide)) (fun c => ?_)
  refine lv_iconst (v := -1) hx hb dX3_turn_7 (by decide) ?_
  exact pw_piret hx hb hr (rfl) hlocks dX3_turn_8 (rfl)
set_option maxHeartbeats 4000000 in
set_option maxRecDepth 100000 in
theorem n_prune_x (l : Launch) (D : va_G) (cI cP cR : ClassId) (x t z rf rw pl hd ha lo ol as_ md : Nat) (T : Nat → Nat → Int32) (Z : Nat → Nat) (RF R P Hd HA Lo Ol AS : Nat → Int32) (row : Int32) (hx_row : ¬ (0 ≤ row ∧ row < nI 3)) : pw_Mp l yX3_prune wsX3_prune ({ frames := 2, cells := 0, slots := 0, locals := 47 } : Room) D cI cP cR [.ref x, .int (row)] ([(x, .inr (3, [.ref t, .ref z, .int (nI md), .ref rf, .ref rw, .ref pl, .ref hd, .ref ha, .ref lo, .ref ol, .ref as_])), (t, .inl (cI, 192, .inl (flT T))), (z, .inl (cI, 3, .inl (zI Z))), (rf, .inl (cI, 4, .inl (RF))), (rw, .inl (cI, 4, .inl (R))), (pl, .inl (cI, 4, .inl (P))), (hd, .inl (cI, 4, .inl (Hd))), (ha, .inl (cI, 4, .inl (HA))), (lo, .inl (cI, 4, .inl (Lo))), (ol, .inl (cI, 4, .inl (Ol))), (as_, .inl (cI, 64, .inl (AS)))]) (.int (-1)) := by
  refine pw_ofp (cc := cX3_prune) (maxL := 6) (ret := (some .int)) (own := RX3) (by decide +kernel) rfl rfl (Nat.le_of_ble_eq_true rfl) ?_
  intro p_ e_ s m bel meth cd hE hK hP hD ls hl
  obtain ⟨hx, hb, hr, hml, hown, hts, hlocks⟩ := hE
  have hNW := hK.2
  have hl : lv_has ls 6 [(0, .ref x), (1, .int (row))] := hl
  refine lv_iload_n hx hb dX3_prune_0 rfl (lv_at hl 1 rfl) ?_
  -- m_isRow_f
  refine pw_cSp (As := [.int (row)]) (rest := []) ⟨hx, hb, hml, hown, hts⟩ (m_isRow_f l D cI cP cR row hx_row) (va_cwS 1 hts gX3_prune_X3_isRow rfl rfl rfl (by decide +kernel) ⟨Nat.le_of_ble_eq_true rfl, Nat.le_of_ble_eq_true rfl⟩) hK rfl hl.1 rfl (Nat.le_of_ble_eq_true rfl) dX3_prune_1 ⟨Nat.zero_le _, Nat.zero_le _⟩ ?_
  refine lv_if_ne (tgt := 9) hx hb dX3_prune_4 (by decide) (fun c => absurd c (by decide)) (fun c => ?_)
  refine lv_iconst (v := -1) hx hb dX3_prune_7 (by decide) ?_
  exact pw_piret hx hb hr (rfl) hlocks dX3_prune_8 (rfl)
set_option maxHeartbeats 4000000 in
set_option maxRecDepth 100000 in
theorem n_sum_x (l : Launch) (D : va_G) (cI cP cR : ClassId) (x t z rf rw pl hd ha lo ol as_ md : Nat) (T : Nat → Nat → Int32) (Z : Nat → Nat) (RF R P Hd HA Lo Ol AS : Nat → Int32) (row : Int32) (hx_row : ¬ (0 ≤ row ∧ row < nI 3)) : pw_Mp l yX3_sum wsX3_sum ({ frames := 2, cells := 0, slots := 0, locals := 47 } : Room) D cI cP cR [.ref x, .int (row)] ([(x, .inr (3, [.ref t, .ref z, .int (nI md), .ref rf, .ref rw, .ref pl, .ref hd, .ref ha, .ref lo, .ref ol, .ref as_])), (t, .inl (cI, 192, .inl (flT T))), (z, .inl (cI, 3, .inl (zI Z))), (rf, .inl (cI, 4, .inl (RF))), (rw, .inl (cI, 4, .inl (R))), (pl, .inl (cI, 4, .inl (P))), (hd, .inl (cI, 4, .inl (Hd))), (ha, .inl (cI, 4, .inl (HA))), (lo, .inl (cI, 4, .inl (Lo))), (ol, .inl (cI, 4, .inl (Ol))), (as_, .inl (cI, 64, .inl (AS)))]) (.int (-1)) := by
  refine pw_ofp (cc := cX3_sum) (maxL := 4) (ret := (some .int)) (own := RX3) (by decide +kernel) rfl rfl (Nat.le_of_ble_eq_true rfl) ?_
  intro p_ e_ s m bel meth cd hE hK hP hD ls hl
  obtain ⟨hx, hb, hr, hml, hown, hts, hlocks⟩ := hE
  have hNW := hK.2
  have hl : lv_has ls 4 [(0, .ref x), (1, .int (row))] := hl
  refine lv_iload_n hx hb dX3_sum_0 rfl (lv_at hl 1 rfl) ?_
  -- m_isRow_f
  refine pw_cSp (As := [.int (row)]) (rest := []) ⟨hx, hb, hml, hown, hts⟩ (m_isRow_f l D cI cP cR row hx_row) (va_cwS 1 hts gX3_sum_X3_isRow rfl rfl rfl (by decide +kernel) ⟨Nat.le_of_ble_eq_true rfl, Nat.le_of_ble_eq_true rfl⟩) hK rfl hl.1 rfl (Nat.le_of_ble_eq_true rfl) dX3_sum_1 ⟨Nat.zero_le _, Nat.zero_le _⟩ ?_
  refine lv_if_ne (tgt := 9) hx hb dX3_sum_4 (by decide) (fun c => absurd c (by decide)) (fun c => ?_)
  refine lv_iconst (v := -1) hx hb dX3_sum_7 (by decide) ?_
  exact pw_piret hx hb hr (rfl) hlocks dX3_sum_8 (rfl)
set_option maxHeartbeats 4000000 in
set_option maxRecDepth 100000 in
theorem n_size_x (l : Launch) (D : va_G) (cI cP cR : ClassId) (x t z rf rw pl hd ha lo ol as_ md : Nat) (T : Nat → Nat → Int32) (Z : Nat → Nat) (RF R P Hd HA Lo Ol AS : Nat → Int32) (row : Int32) (hx_row : ¬ (0 ≤ row ∧ row < nI 3)) : pw_Mp l yX3_size wsX3_size ({ frames := 2, cells := 0, slots := 0, locals := 47 } : Room) D cI cP cR [.ref x, .int (row)] ([(x, .inr (3, [.ref t, .ref z, .int (nI md), .ref rf, .ref rw, .ref pl, .ref hd, .ref ha, .ref lo, .ref ol, .ref as_])), (t, .inl (cI, 192, .inl (flT T))), (z, .inl (cI, 3, .inl (zI Z))), (rf, .inl (cI, 4, .inl (RF))), (rw, .inl (cI, 4, .inl (R))), (pl, .inl (cI, 4, .inl (P))), (hd, .inl (cI, 4, .inl (Hd))), (ha, .inl (cI, 4, .inl (HA))), (lo, .inl (cI, 4, .inl (Lo))), (ol, .inl (cI, 4, .inl (Ol))), (as_, .inl (cI, 64, .inl (AS)))]) (.int (-1)) := by
  refine pw_ofp (cc := cX3_size) (maxL := 2) (ret := (some .int)) (own := RX3) (by decide +kernel) rfl rfl (Nat.le_of_ble_eq_true rfl) ?_
  intro p_ e_ s m bel meth cd hE hK hP hD ls hl
  obtain ⟨hx, hb, hr, hml, hown, hts, hlocks⟩ := hE
  have hNW := hK.2
  have hl : lv_has ls 2 [(0, .ref x), (1, .int (row))] := hl
  refine lv_iload_n hx hb dX3_size_0 rfl (lv_at hl 1 rfl) ?_
  -- m_isRow_f
  refine pw_cSp (As := [.int (row)]) (rest := []) ⟨hx, hb, hml, hown, hts⟩ (m_isRow_f l D cI cP cR row hx_row) (va_cwS 1 hts gX3_size_X3_isRow rfl rfl rfl (by decide +kernel) ⟨Nat.le_of_ble_eq_true rfl, Nat.le_of_ble_eq_true rfl⟩) hK rfl hl.1 rfl (Nat.le_of_ble_eq_true rfl) dX3_size_1 ⟨Nat.zero_le _, Nat.zero_le _⟩ ?_
  refine lv_if_eq (tgt := 16) hx hb dX3_size_4 (by decide) (fun c => ?_) (fun c => absurd c (by decide))
  refine lv_iconst (v := -1) hx hb dX3_size_16 (by decide) ?_
  exact pw_piret hx hb hr (rfl) hlocks dX3_size_17 (rfl)
theorem hi_X3_size_3 : ∀ w ∈ u_ws RX3 TX3 11, w ∈ wsX3_size := by decide +kernel
theorem hf_X3_size_13 : Cond.fieldLink RX3 13 "PegrowModel" "sizes" "[I" ∈ wsX3_size := by decide +kernel
set_option maxHeartbeats 4000000 in
set_option maxRecDepth 100000 in
theorem n_size (l : Launch) (D : va_G) (cI cP cR : ClassId) (x t z rf rw pl hd ha lo ol as_ md : Nat) (T : Nat → Nat → Int32) (Z : Nat → Nat) (RF R P Hd HA Lo Ol AS : Nat → Int32) (i : Nat) (hi : i < 3) (hz : Z i ≤ 60) : pw_Mp l yX3_size wsX3_size ({ frames := 2, cells := 0, slots := 0, locals := 47 } : Room) D cI cP cR [.ref x, .int (nI i)] ([(x, .inr (3, [.ref t, .ref z, .int (nI md), .ref rf, .ref rw, .ref pl, .ref hd, .ref ha, .ref lo, .ref ol, .ref as_])), (t, .inl (cI, 192, .inl (flT T))), (z, .inl (cI, 3, .inl (zI Z))), (rf, .inl (cI, 4, .inl (RF))), (rw, .inl (cI, 4, .inl (R))), (pl, .inl (cI, 4, .inl (P))), (hd, .inl (cI, 4, .inl (Hd))), (ha, .inl (cI, 4, .inl (HA))), (lo, .inl (cI, 4, .inl (Lo))), (ol, .inl (cI, 4, .inl (Ol))), (as_, .inl (cI, 64, .inl (AS)))]) (.int (nI (Z i))) := by
  refine pw_ofp (cc := cX3_size) (maxL := 2) (ret := (some .int)) (own := RX3) (by decide +kernel) rfl rfl (Nat.le_of_ble_eq_true rfl) ?_
  intro p_ e_ s m bel meth cd hE hK hP hD ls hl
  obtain ⟨hx, hb, hr, hml, hown, hts, hlocks⟩ := hE
  have hNW := hK.2
  have hl : lv_has ls 2 [(0, .ref x), (1, .int (nI i))] := hl
  refine lv_iload_n hx hb dX3_size_0 rfl (lv_at hl 1 rfl) ?_
  -- m_isRow_t
  refine pw_cSp (As := [.int (nI i)]) (rest := []) ⟨hx, hb, hml, hown, hts⟩ (m_isRow_t l D cI cP cR i (by omega)) (va_cwS 1 hts gX3_size_X3_isRow rfl rfl rfl (by decide +kernel) ⟨Nat.le_of_ble_eq_true rfl, Nat.le_of_ble_eq_true rfl⟩) hK rfl hl.1 rfl (Nat.le_of_ble_eq_true rfl) dX3_size_1 ⟨Nat.zero_le _, Nat.zero_le _⟩ ?_
  refine lv_if_eq (tgt := 16) hx hb dX3_size_4 (by decide) (fun c => absurd c (by decide)) (fun c => ?_)
  refine lv_aload_n hx hb dX3_size_7 rfl (lv_at hl 0 rfl) ?_
  refine va_get (D := D) (ci := 3) (v := .ref z) (C := RX3) (T := TX3) (N := 11) hx hb hts hi_X3_size_3 hown hK.1 hP 0 rfl rfl 1 (by decide) (hts _ hf_X3_size_13) (fun _ h9 => h9) rfl dX3_size_8 ?_
  refine lv_iload_n hx hb dX3_size_11 rfl (lv_at hl 1 rfl) ?_
  refine pw_iald hx hb hK.1 hP 2 0 rfl rfl (by decide) (by omega) dX3_size_12 ?_
  refine pw_top (y := nI (Z i)) rfl ?_
  refine lv_goto (tgt := 17) hx hb dX3_size_13 (by decide) ?_
  exact pw_piret hx hb hr (rfl) hlocks dX3_size_17 (rfl)
theorem hi_X3_clear_3 : ∀ w ∈ u_ws RX3 TX3 11, w ∈ wsX3_clear := by decide +kernel
theorem hf_X3_clear_13 : Cond.fieldLink RX3 13 "PegrowModel" "sizes" "[I" ∈ wsX3_clear := by decide +kernel
set_option maxHeartbeats 4000000 in
set_option maxRecDepth 100000 in
theorem n_clear_0 (l : Launch) (D : va_G) (cI cP cR : ClassId) (x t z rf rw pl hd ha lo ol as_ md : Nat) (T : Nat → Nat → Int32) (Z : Nat → Nat) (RF R P Hd HA Lo Ol AS : Nat → Int32) (i : Nat) (hi : i < 3) (hz : Z i ≤ 60) (hzz : Z i = 0) : pw_Mm l yX3_clear wsX3_clear ({ frames := 2, cells := 0, slots := 0, locals := 47 } : Room) D cI cP cR [.ref x, .int (nI i)] ([(x, .inr (3, [.ref t, .ref z, .int (nI md), .ref rf, .ref rw, .ref pl, .ref hd, .ref ha, .ref lo, .ref ol, .ref as_])), (t, .inl (cI, 192, .inl (flT T))), (z, .inl (cI, 3, .inl (zI Z))), (rf, .inl (cI, 4, .inl (RF))), (rw, .inl (cI, 4, .inl (R))), (pl, .inl (cI, 4, .inl (P))), (hd, .inl (cI, 4, .inl (Hd))), (ha, .inl (cI, 4, .inl (HA))), (lo, .inl (cI, 4, .inl (Lo))), (ol, .inl (cI, 4, .inl (Ol))), (as_, .inl (cI, 64, .inl (AS)))]) (fun v w => v = some (.int (nI (Z i))) ∧ w = [(x, .inr (3, [.ref t, .ref z, .int (nI md), .ref rf, .ref rw, .ref pl, .ref hd, .ref ha, .ref lo, .ref ol, .ref as_])), (t, .inl (cI, 192, .inl (flT T))), (z, .inl (cI, 3, .inl (zI (updN Z i 0)))), (rf, .inl (cI, 4, .inl (RF))), (rw, .inl (cI, 4, .inl (R))), (pl, .inl (cI, 4, .inl (P))), (hd, .inl (cI, 4, .inl (Hd))), (ha, .inl (cI, 4, .inl (HA))), (lo, .inl (cI, 4, .inl (Lo))), (ol, .inl (cI, 4, .inl (Ol))), (as_, .inl (cI, 64, .inl (AS)))]) := by
  refine pw_ofm (cc := cX3_clear) (maxL := 3) (ret := (some .int)) (own := RX3) (by decide +kernel) rfl rfl (Nat.le_of_ble_eq_true rfl) ?_
  intro p_ e_ s m bel meth cd A hE hK hP hD hA hS ls hl
  obtain ⟨hx, hb, hr, hml, hown, hts, hlocks⟩ := hE
  have hNW := hK.2
  have hl : lv_has ls 3 [(0, .ref x), (1, .int (nI i))] := hl
  refine lv_iload_n hx hb dX3_clear_0 rfl (lv_at hl 1 rfl) ?_
  -- m_isRow_t
  refine pw_cSp (As := [.int (nI i)]) (rest := []) ⟨hx, hb, hml, hown, hts⟩ (m_isRow_t l D cI cP cR i (by omega)) (va_cwS 1 hts gX3_clear_X3_isRow rfl rfl rfl (by decide +kernel) ⟨Nat.le_of_ble_eq_true rfl, Nat.le_of_ble_eq_true rfl⟩) hK rfl hl.1 rfl (Nat.le_of_ble_eq_true rfl) dX3_clear_1 ⟨Nat.zero_le _, Nat.zero_le _⟩ ?_
  refine lv_if_ne (tgt := 9) hx hb dX3_clear_4 (by decide) (fun c => ?_) (fun c => absurd c (by decide))
  refine lv_aload_n hx hb dX3_clear_9 rfl (lv_at hl 0 rfl) ?_
  refine va_get (D := D) (ci := 3) (v := .ref z) (C := RX3) (T := TX3) (N := 11) hx hb hts hi_X3_clear_3 hown hK.1 hP 0 rfl rfl 1 (by decide) (hts _ hf_X3_clear_13) (fun _ h9 => h9) rfl dX3_clear_10 ?_
  refine lv_iload_n hx hb dX3_clear_13 rfl (lv_at hl 1 rfl) ?_
  refine pw_iald hx hb hK.1 hP 2 0 rfl rfl (by decide) (by omega) dX3_clear_14 ?_
  refine pw_top (y := nI (Z i)) rfl ?_
  refine lv_istore_n (lv' := [(2, .int (nI (Z i))), (0, .ref x), (1, .int (nI i))]) hx hb dX3_clear_15 rfl hl (by decide) rfl (fun ls hl => ?_)
  refine lv_iload_n hx hb dX3_clear_16 rfl (lv_at hl 0 rfl) ?_
  refine pw_if_le (tgt := 26) hx hb (by omega) dX3_clear_17 (by decide) (fun c_1 => ?_) (fun c_1 => ?_)
  · have _h := c_1
    refine lv_aload_n hx hb dX3_clear_26 rfl (lv_at hl 1 rfl) ?_
    refine va_get (D := D) (ci := 3) (v := .ref z) (C := RX3) (T := TX3) (N := 11) hx hb hts hi_X3_clear_3 hown hK.1 hP 0 rfl rfl 1 (by decide) (hts _ hf_X3_clear_13) (fun _ h9 => h9) rfl dX3_clear_27 ?_
    refine lv_iload_n hx hb dX3_clear_30 rfl (lv_at hl 2 rfl) ?_
    refine lv_iconst (v := nI 0) hx hb dX3_clear_31 (by decide) ?_
    refine pw_iast hx hb hK.1 hP hD hS 2 0 rfl rfl (by decide) (by omega) dX3_clear_32 (fun H locs hP hD hS => ?_)
    have hP : va_P D vwCl ([(x, .inr (3, [.ref t, .ref z, .int (nI md), .ref rf, .ref rw, .ref pl, .ref hd, .ref ha, .ref lo, .ref ol, .ref as_])), (t, .inl (cI, 192, .inl (flT T))), (z, .inl (cI, 3, .inl (upd (zI Z) i (nI 0)))), (rf, .inl (cI, 4, .inl (RF))), (rw, .inl (cI, 4, .inl (R))), (pl, .inl (cI, 4, .inl (P))), (hd, .inl (cI, 4, .inl (Hd))), (ha, .inl (cI, 4, .inl (HA))), (lo, .inl (cI, 4, .inl (Lo))), (ol, .inl (cI, 4, .inl (Ol))), (as_, .inl (cI, 64, .inl (AS)))]) H := hP
    have hD : va_D A ([(x, .inr (3, [.ref t, .ref z, .int (nI md), .ref rf, .ref rw, .ref pl, .ref hd, .ref ha, .ref lo, .ref ol, .ref as_])), (t, .inl (cI, 192, .inl (flT T))), (z, .inl (cI, 3, .inl (upd (zI Z) i (nI 0)))), (rf, .inl (cI, 4, .inl (RF))), (rw, .inl (cI, 4, .inl (R))), (pl, .inl (cI, 4, .inl (P))), (hd, .inl (cI, 4, .inl (Hd))), (ha, .inl (cI, 4, .inl (HA))), (lo, .inl (cI, 4, .inl (Lo))), (ol, .inl (cI, 4, .inl (Ol))), (as_, .inl (cI, 64, .inl (AS)))]) := hD
    rw [zI_upd] at hP hD
    refine lv_iload_n hx hb dX3_clear_33 rfl (lv_at hl 0 rfl) ?_
    have hP := hP.sub (ws' := [(x, .inr (3, [.ref t, .ref z, .int (nI md), .ref rf, .ref rw, .ref pl, .ref hd, .ref ha, .ref lo, .ref ol, .ref as_])), (t, .inl (cI, 192, .inl (flT T))), (z, .inl (cI, 3, .inl (zI (updN Z i 0)))), (rf, .inl (cI, 4, .inl (RF))), (rw, .inl (cI, 4, .inl (R))), (pl, .inl (cI, 4, .inl (P))), (hd, .inl (cI, 4, .inl (Hd))), (ha, .inl (cI, 4, .inl (HA))), (lo, .inl (cI, 4, .inl (Lo))), (ol, .inl (cI, 4, .inl (Ol))), (as_, .inl (cI, 64, .inl (AS)))]) [0, 1, 2, 3, 4, 5, 6, 7, 8, 9, 10] rfl
    have hD := hD.sub (ws' := [(x, .inr (3, [.ref t, .ref z, .int (nI md), .ref rf, .ref rw, .ref pl, .ref hd, .ref ha, .ref lo, .ref ol, .ref as_])), (t, .inl (cI, 192, .inl (flT T))), (z, .inl (cI, 3, .inl (zI (updN Z i 0)))), (rf, .inl (cI, 4, .inl (RF))), (rw, .inl (cI, 4, .inl (R))), (pl, .inl (cI, 4, .inl (P))), (hd, .inl (cI, 4, .inl (Hd))), (ha, .inl (cI, 4, .inl (HA))), (lo, .inl (cI, 4, .inl (Lo))), (ol, .inl (cI, 4, .inl (Ol))), (as_, .inl (cI, 64, .inl (AS)))]) [0, 1, 2, 3, 4, 5, 6, 7, 8, 9, 10] (by decide) rfl
    exact pw_iret hx hb hr (rfl) hlocks dX3_clear_34 hS hP hD (⟨rfl, rfl⟩)
  · exact absurd hzz (by omega)
set_option maxHeartbeats 4000000 in
set_option maxRecDepth 100000 in
theorem n_clear (l : Launch) (D : va_G) (cI cP cR : ClassId) (x t z rf rw pl hd ha lo ol as_ md : Nat) (T : Nat → Nat → Int32) (Z : Nat → Nat) (RF R P Hd HA Lo Ol AS : Nat → Int32) (i : Nat) (hi : i < 3) (hz : Z i ≤ 60) (hzz : ¬ Z i = 0) : pw_Mm l yX3_clear wsX3_clear ({ frames := 2, cells := 0, slots := 0, locals := 47 } : Room) D cI cP cR [.ref x, .int (nI i)] ([(x, .inr (3, [.ref t, .ref z, .int (nI md), .ref rf, .ref rw, .ref pl, .ref hd, .ref ha, .ref lo, .ref ol, .ref as_])), (t, .inl (cI, 192, .inl (flT T))), (z, .inl (cI, 3, .inl (zI Z))), (rf, .inl (cI, 4, .inl (RF))), (rw, .inl (cI, 4, .inl (R))), (pl, .inl (cI, 4, .inl (P))), (hd, .inl (cI, 4, .inl (Hd))), (ha, .inl (cI, 4, .inl (HA))), (lo, .inl (cI, 4, .inl (Lo))), (ol, .inl (cI, 4, .inl (Ol))), (as_, .inl (cI, 64, .inl (AS)))]) (fun v w => v = some (.int (nI (Z i))) ∧ w = [(x, .inr (3, [.ref t, .ref z, .int (nI md), .ref rf, .ref rw, .ref pl, .ref hd, .ref ha, .ref lo, .ref ol, .ref as_])), (t, .inl (cI, 192, .inl (flT T))), (z, .inl (cI, 3, .inl (zI (updN Z i 0)))), (rf, .inl (cI, 4, .inl (RF))), (rw, .inl (cI, 4, .inl (R))), (pl, .inl (cI, 4, .inl (P))), (hd, .inl (cI, 4, .inl (Hd))), (ha, .inl (cI, 4, .inl (HA))), (lo, .inl (cI, 4, .inl (Lo))), (ol, .inl (cI, 4, .inl (agF R Ol (nI i) (-1)))), (as_, .inl (cI, 64, .inl (AS)))]) := by
  refine pw_ofm (cc := cX3_clear) (maxL := 3) (ret := (some .int)) (own := RX3) (by decide +kernel) rfl rfl (Nat.le_of_ble_eq_true rfl) ?_
  intro p_ e_ s m bel meth cd A hE hK hP hD hA hS ls hl
  obtain ⟨hx, hb, hr, hml, hown, hts, hlocks⟩ := hE
  have hNW := hK.2
  have hl : lv_has ls 3 [(0, .ref x), (1, .int (nI i))] := hl
  refine lv_iload_n hx hb dX3_clear_0 rfl (lv_at hl 1 rfl) ?_
  -- m_isRow_t
  refine pw_cSp (As := [.int (nI i)]) (rest := []) ⟨hx, hb, hml, hown, hts⟩ (m_isRow_t l D cI cP cR i (by omega)) (va_cwS 1 hts gX3_clear_X3_isRow rfl rfl rfl (by decide +kernel) ⟨Nat.le_of_ble_eq_true rfl, Nat.le_of_ble_eq_true rfl⟩) hK rfl hl.1 rfl (Nat.le_of_ble_eq_true rfl) dX3_clear_1 ⟨Nat.zero_le _, Nat.zero_le _⟩ ?_
  refine lv_if_ne (tgt := 9) hx hb dX3_clear_4 (by decide) (fun c => ?_) (fun c => absurd c (by decide))
  refine lv_aload_n hx hb dX3_clear_9 rfl (lv_at hl 0 rfl) ?_
  refine va_get (D := D) (ci := 3) (v := .ref z) (C := RX3) (T := TX3) (N := 11) hx hb hts hi_X3_clear_3 hown hK.1 hP 0 rfl rfl 1 (by decide) (hts _ hf_X3_clear_13) (fun _ h9 => h9) rfl dX3_clear_10 ?_
  refine lv_iload_n hx hb dX3_clear_13 rfl (lv_at hl 1 rfl) ?_
  refine pw_iald hx hb hK.1 hP 2 0 rfl rfl (by decide) (by omega) dX3_clear_14 ?_
  refine pw_top (y := nI (Z i)) rfl ?_
  refine lv_istore_n (lv' := [(2, .int (nI (Z i))), (0, .ref x), (1, .int (nI i))]) hx hb dX3_clear_15 rfl hl (by decide) rfl (fun ls hl => ?_)
  refine lv_iload_n hx hb dX3_clear_16 rfl (lv_at hl 0 rfl) ?_
  refine pw_if_le (tgt := 26) hx hb (by omega) dX3_clear_17 (by decide) (fun c_1 => ?_) (fun c_1 => ?_)
  · exact absurd c_1 hzz
  · have _h := c_1
    refine lv_aload_n hx hb dX3_clear_20 rfl (lv_at hl 1 rfl) ?_
    refine lv_iload_n hx hb dX3_clear_21 rfl (lv_at hl 2 rfl) ?_
    refine lv_iconst (v := -1) hx hb dX3_clear_22 (by decide) ?_
    -- m_age
    refine pw_cVm (As := [.int (nI i), .int (-1)]) (rest := []) (wc := [(x, .inr (3, [.ref t, .ref z, .int (nI md), .ref rf, .ref rw, .ref pl, .ref hd, .ref ha, .ref lo, .ref ol, .ref as_])), (rw, .inl (cI, 4, .inl (R))), (ol, .inl (cI, 4, .inl (Ol)))]) (wr := [(t, .inl (cI, 192, .inl (flT T))), (z, .inl (cI, 3, .inl (zI Z))), (rf, .inl (cI, 4, .inl (RF))), (pl, .inl (cI, 4, .inl (P))), (hd, .inl (cI, 4, .inl (Hd))), (ha, .inl (cI, 4, .inl (HA))), (lo, .inl (cI, 4, .inl (Lo))), (as_, .inl (cI, 64, .inl (AS)))]) ⟨hx, hb, hml, hown, hts⟩ (m_age l D cI cP cR x t z rf rw pl hd ha lo ol as_ md R Ol i (-1)) (cwV 2 hts gX3_clear_X3_age rfl rfl rfl (by decide +kernel) ⟨Nat.le_of_ble_eq_true rfl, Nat.le_of_ble_eq_true rfl⟩) hK hP hD hS hA [0, 4, 9] [1, 2, 3, 5, 6, 7, 8, 10] rfl rfl (by decide) (by decide) (by decide) 0 rfl rfl rfl rfl hl.1 rfl (Nat.le_of_ble_eq_true rfl) dX3_clear_23 ⟨Nat.zero_le _, Nat.zero_le _⟩ (fun v1 w1 H locs hq hP hD hS => ?_)
    rcases hq with ⟨rfl, rfl⟩
    have hP : va_P D vwCl ([(t, .inl (cI, 192, .inl (flT T))), (z, .inl (cI, 3, .inl (zI Z))), (rf, .inl (cI, 4, .inl (RF))), (pl, .inl (cI, 4, .inl (P))), (hd, .inl (cI, 4, .inl (Hd))), (ha, .inl (cI, 4, .inl (HA))), (lo, .inl (cI, 4, .inl (Lo))), (as_, .inl (cI, 64, .inl (AS))), (x, .inr (3, [.ref t, .ref z, .int (nI md), .ref rf, .ref rw, .ref pl, .ref hd, .ref ha, .ref lo, .ref ol, .ref as_])), (rw, .inl (cI, 4, .inl (R))), (ol, .inl (cI, 4, .inl (agF R Ol (nI i) (-1))))]) H := hP
    have hD : va_D A ([(t, .inl (cI, 192, .inl (flT T))), (z, .inl (cI, 3, .inl (zI Z))), (rf, .inl (cI, 4, .inl (RF))), (pl, .inl (cI, 4, .inl (P))), (hd, .inl (cI, 4, .inl (Hd))), (ha, .inl (cI, 4, .inl (HA))), (lo, .inl (cI, 4, .inl (Lo))), (as_, .inl (cI, 64, .inl (AS))), (x, .inr (3, [.ref t, .ref z, .int (nI md), .ref rf, .ref rw, .ref pl, .ref hd, .ref ha, .ref lo, .ref ol, .ref as_])), (rw, .inl (cI, 4, .inl (R))), (ol, .inl (cI, 4, .inl (agF R Ol (nI i) (-1))))]) := hD
    refine W.eq (g2 := F0 m 26 ls []) rfl ?_
    refine lv_aload_n hx hb dX3_clear_26 rfl (lv_at hl 1 rfl) ?_
    refine va_get (D := D) (ci := 3) (v := .ref z) (C := RX3) (T := TX3) (N := 11) hx hb hts hi_X3_clear_3 hown hK.1 hP 8 rfl rfl 1 (by decide) (hts _ hf_X3_clear_13) (fun _ h9 => h9) rfl dX3_clear_27 ?_
    refine lv_iload_n hx hb dX3_clear_30 rfl (lv_at hl 2 rfl) ?_
    refine lv_iconst (v := nI 0) hx hb dX3_clear_31 (by decide) ?_
    refine pw_iast hx hb hK.1 hP hD hS 1 0 rfl rfl (by decide) (by omega) dX3_clear_32 (fun H locs hP hD hS => ?_)
    have hP : va_P D vwCl ([(t, .inl (cI, 192, .inl (flT T))), (z, .inl (cI, 3, .inl (upd (zI Z) i (nI 0)))), (rf, .inl (cI, 4, .inl (RF))), (pl, .inl (cI, 4, .inl (P))), (hd, .inl (cI, 4, .inl (Hd))), (ha, .inl (cI, 4, .inl (HA))), (lo, .inl (cI, 4, .inl (Lo))), (as_, .inl (cI, 64, .inl (AS))), (x, .inr (3, [.ref t, .ref z, .int (nI md), .ref rf, .ref rw, .ref pl, .ref hd, .ref ha, .ref lo, .ref ol, .ref as_])), (rw, .inl (cI, 4, .inl (R))), (ol, .inl (cI, 4, .inl (agF R Ol (nI i) (-1))))]) H := hP
    have hD : va_D A ([(t, .inl (cI, 192, .inl (flT T))), (z, .inl (cI, 3, .inl (upd (zI Z) i (nI 0)))), (rf, .inl (cI, 4, .inl (RF))), (pl, .inl (cI, 4, .inl (P))), (hd, .inl (cI, 4, .inl (Hd))), (ha, .inl (cI, 4, .inl (HA))), (lo, .inl (cI, 4, .inl (Lo))), (as_, .inl (cI, 64, .inl (AS))), (x, .inr (3, [.ref t, .ref z, .int (nI md), .ref rf, .ref rw, .ref pl, .ref hd, .ref ha, .ref lo, .ref ol, .ref as_])), (rw, .inl (cI, 4, .inl (R))), (ol, .inl (cI, 4, .inl (agF R Ol (nI i) (-1))))]) := hD
    rw [zI_upd] at hP hD
    refine lv_iload_n hx hb dX3_clear_33 rfl (lv_at hl 0 rfl) ?_
    have hP := hP.sub (ws' := [(x, .inr (3, [.ref t, .ref z, .int (nI md), .ref rf, .ref rw, .ref pl, .ref hd, .ref ha, .ref lo, .ref ol, .ref as_])), (t, .inl (cI, 192, .inl (flT T))), (z, .inl (cI, 3, .inl (zI (updN Z i 0)))), (rf, .inl (cI, 4, .inl (RF))), (rw, .inl (cI, 4, .inl (R))), (pl, .inl (cI, 4, .inl (P))), (hd, .inl (cI, 4, .inl (Hd))), (ha, .inl (cI, 4, .inl (HA))), (lo, .inl (cI, 4, .inl (Lo))), (ol, .inl (cI, 4, .inl (agF R Ol (nI i) (-1)))), (as_, .inl (cI, 64, .inl (AS)))]) [8, 0, 1, 2, 9, 3, 4, 5, 6, 10, 7] rfl
    have hD := hD.sub (ws' := [(x, .inr (3, [.ref t, .ref z, .int (nI md), .ref rf, .ref rw, .ref pl, .ref hd, .ref ha, .ref lo, .ref ol, .ref as_])), (t, .inl (cI, 192, .inl (flT T))), (z, .inl (cI, 3, .inl (zI (updN Z i 0)))), (rf, .inl (cI, 4, .inl (RF))), (rw, .inl (cI, 4, .inl (R))), (pl, .inl (cI, 4, .inl (P))), (hd, .inl (cI, 4, .inl (Hd))), (ha, .inl (cI, 4, .inl (HA))), (lo, .inl (cI, 4, .inl (Lo))), (ol, .inl (cI, 4, .inl (agF R Ol (nI i) (-1)))), (as_, .inl (cI, 64, .inl (AS)))]) [8, 0, 1, 2, 9, 3, 4, 5, 6, 10, 7] (by decide) rfl
    exact pw_iret hx hb hr (rfl) hlocks dX3_clear_34 hS hP hD (⟨rfl, rfl⟩)
theorem hi_X3_sum_3 : ∀ w ∈ u_ws RX3 TX3 11, w ∈ wsX3_sum := by decide +kernel
theorem hf_X3_sum_13 : Cond.fieldLink RX3 13 "PegrowModel" "sizes" "[I" ∈ wsX3_sum := by decide +kernel
set_option maxHeartbeats 4000000 in
set_option maxRecDepth 100000 in
theorem n_sum (l : Launch) (D : va_G) (cI cP cR : ClassId) (x t z rf rw pl hd ha lo ol as_ md : Nat) (T : Nat → Nat → Int32) (Z : Nat → Nat) (RF R P Hd HA Lo Ol AS : Nat → Int32) (i : Nat) (hi : i < 3) (hz : Z i ≤ 60) : pw_Mp l yX3_sum wsX3_sum ({ frames := 2, cells := 0, slots := 0, locals := 47 } : Room) D cI cP cR [.ref x, .int (nI i)] ([(x, .inr (3, [.ref t, .ref z, .int (nI md), .ref rf, .ref rw, .ref pl, .ref hd, .ref ha, .ref lo, .ref ol, .ref as_])), (t, .inl (cI, 192, .inl (flT T))), (z, .inl (cI, 3, .inl (zI Z))), (rf, .inl (cI, 4, .inl (RF))), (rw, .inl (cI, 4, .inl (R))), (pl, .inl (cI, 4, .inl (P))), (hd, .inl (cI, 4, .inl (Hd))), (ha, .inl (cI, 4, .inl (HA))), (lo, .inl (cI, 4, .inl (Lo))), (ol, .inl (cI, 4, .inl (Ol))), (as_, .inl (cI, 64, .inl (AS)))]) (.int (smF (T i) (Z i))) := by
  refine pw_ofp (cc := cX3_sum) (maxL := 4) (ret := (some .int)) (own := RX3) (by decide +kernel) rfl rfl (Nat.le_of_ble_eq_true rfl) ?_
  intro p_ e_ s m bel meth cd hE hK hP hD ls hl
  obtain ⟨hx, hb, hr, hml, hown, hts, hlocks⟩ := hE
  have hNW := hK.2
  have hl : lv_has ls 4 [(0, .ref x), (1, .int (nI i))] := hl
  refine lv_iload_n hx hb dX3_sum_0 rfl (lv_at hl 1 rfl) ?_
  -- m_isRow_t
  refine pw_cSp (As := [.int (nI i)]) (rest := []) ⟨hx, hb, hml, hown, hts⟩ (m_isRow_t l D cI cP cR i (by omega)) (va_cwS 1 hts gX3_sum_X3_isRow rfl rfl rfl (by decide +kernel) ⟨Nat.le_of_ble_eq_true rfl, Nat.le_of_ble_eq_true rfl⟩) hK rfl hl.1 rfl (Nat.le_of_ble_eq_true rfl) dX3_sum_1 ⟨Nat.zero_le _, Nat.zero_le _⟩ ?_
  refine lv_if_ne (tgt := 9) hx hb dX3_sum_4 (by decide) (fun c => ?_) (fun c => absurd c (by decide))
  refine lv_bipush (v := nI 7) hx hb dX3_sum_9 (by decide) ?_
  refine lv_istore_n (lv' := [(2, .int (nI 7)), (0, .ref x), (1, .int (nI i))]) hx hb dX3_sum_11 rfl hl (by decide) rfl (fun ls hl => ?_)
  refine lv_iconst (v := nI 0) hx hb dX3_sum_12 (by decide) ?_
  refine lv_istore_n (lv' := [(3, .int (nI 0)), (2, .int (nI 7)), (0, .ref x), (1, .int (nI i))]) hx hb dX3_sum_13 rfl hl (by decide) rfl (fun ls hl => ?_)
  have loop : ∀ (r : Nat), ∀ (j : Nat), j + r = Z i → ∀ (x2 : Int32), x2 = smF (T i) j → ∀ ls : Array Slot, lv_has ls 4 [(3, .int (nI j)), (2, .int (x2)), (0, .ref x), (1, .int (nI i))] → W p_ l e_ ({ frames := 2, cells := 0, slots := 0, locals := 47 } : Room) s m [.ref x, .int (nI i)].toArray bel meth cd s.heap [] 0 0 (MQ bel (pw_Qp (.int (smF (T i) (Z i)))) [.ref x, .int (nI i)].toArray s 0 0 (fun _ => False)) (F0 m 14 ls []) := by
    intro r
    induction r with
    | zero =>
      intro j hr1 x2 ex2 ls hl
      obtain rfl : j = Z i := by omega
      refine lv_iload_n hx hb dX3_sum_14 rfl (lv_at hl 0 rfl) ?_
      refine lv_aload_n hx hb dX3_sum_15 rfl (lv_at hl 2 rfl) ?_
      refine va_get (D := D) (ci := 3) (v := .ref z) (C := RX3) (T := TX3) (N := 11) hx hb hts hi_X3_sum_3 hown hK.1 hP 0 rfl rfl 1 (by decide) (hts _ hf_X3_sum_13) (fun _ h9 => h9) rfl dX3_sum_16 ?_
      refine lv_iload_n hx hb dX3_sum_19 rfl (lv_at hl 3 rfl) ?_
      refine pw_iald hx hb hK.1 hP 2 0 rfl rfl (by decide) (by omega) dX3_sum_20 ?_
      refine pw_top (y := nI (Z i)) rfl ?_
      refine pw_icmp_ge (tgt := 45) hx hb (by omega) (by omega) dX3_sum_21 (by decide) (fun c_1 => ?_) (fun c_1 => ?_)
      · have _h := c_1
        refine lv_iload_n hx hb dX3_sum_45 rfl (lv_at hl 1 rfl) ?_
        exact pw_piret hx hb hr (rfl) hlocks dX3_sum_46 (by rw [ex2])
      · exact absurd c_1 (by omega)
    | succ r ih =>
      intro j hr1 x2 ex2 ls hl
      refine lv_iload_n hx hb dX3_sum_14 rfl (lv_at hl 0 rfl) ?_
      refine lv_aload_n hx hb dX3_sum_15 rfl (lv_at hl 2 rfl) ?_
      refine va_get (D := D) (ci := 3) (v := .ref z) (C := RX3) (T := TX3) (N := 11) hx hb hts hi_X3_sum_3 hown hK.1 hP 0 rfl rfl 1 (by decide) (hts _ hf_X3_sum_13) (fun _ h9 => h9) rfl dX3_sum_16 ?_
      refine lv_iload_n hx hb dX3_sum_19 rfl (lv_at hl 3 rfl) ?_
      refine pw_iald hx hb hK.1 hP 2 0 rfl rfl (by decide) (by omega) dX3_sum_20 ?_
      refine pw_top (y := nI (Z i)) rfl ?_
      refine pw_icmp_ge (tgt := 45) hx hb (by omega) (by omega) dX3_sum_21 (by decide) (fun c_2 => ?_) (fun c_2 => ?_)
      · exact absurd c_2 (by omega)
      · have _h := c_2
        refine lv_bipush (v := nI 31) hx hb dX3_sum_24 (by decide) ?_
        refine lv_iload_n hx hb dX3_sum_26 rfl (lv_at hl 1 rfl) ?_
        refine lv_imul hx hb dX3_sum_27 ?_
        refine lv_aload_n hx hb dX3_sum_28 rfl (lv_at hl 2 rfl) ?_
        refine lv_iload_n hx hb dX3_sum_29 rfl (lv_at hl 3 rfl) ?_
        refine lv_iload_n hx hb dX3_sum_30 rfl (lv_at hl 0 rfl) ?_
        -- m_thing
        refine pw_cVp (As := [.int (nI i), .int (nI j)]) (rest := [.int ((nI 31) * x2)]) (wc := [(x, .inr (3, [.ref t, .ref z, .int (nI md), .ref rf, .ref rw, .ref pl, .ref hd, .ref ha, .ref lo, .ref ol, .ref as_])), (t, .inl (cI, 192, .inl (flT T)))]) ⟨hx, hb, hml, hown, hts⟩ (m_thing l D cI cP cR x t z rf rw pl hd ha lo ol as_ md T i j (by omega) (by omega)) (cwV 2 hts gX3_sum_X3_thing rfl rfl rfl (by decide +kernel) ⟨Nat.le_of_ble_eq_true rfl, Nat.le_of_ble_eq_true rfl⟩) hK hP hD [0, 1] rfl (by decide) 0 rfl rfl rfl rfl hl.1 rfl (Nat.le_of_ble_eq_true rfl) dX3_sum_31 ⟨Nat.zero_le _, Nat.zero_le _⟩ ?_
        refine lv_iadd hx hb dX3_sum_34 ?_
        refine lv_ldc (v := 1000003) hx hb hown (hts (.constant RX3 89 (1000003)) (by decide +kernel)) dX3_sum_35 ?_
        refine lv_irem hx hb dX3_sum_37 (by decide) ?_
        refine lv_istore_n (lv' := [(2, .int ((((nI 31) * x2) + (T i j)) - (((nI 31) * x2) + (T i j)) / 1000003 * 1000003)), (3, .int (nI j)), (0, .ref x), (1, .int (nI i))]) hx hb dX3_sum_38 rfl hl (by decide) rfl (fun ls hl => ?_)
        refine lv_iinc (v := nI (j + 1)) (lv' := [(3, .int (nI (j + 1))), (2, .int ((((nI 31) * x2) + (T i j)) - (((nI 31) * x2) + (T i j)) / 1000003 * 1000003)), (0, .ref x), (1, .int (nI i))]) hx hb dX3_sum_39 hl (k := 1) rfl (pw_inc _ 1) (by decide) rfl (fun ls hl => ?_)
        refine lv_goto (tgt := 14) hx hb dX3_sum_42 (by decide) ?_
        exact ih (j + 1) (by omega) _ (by rw [ex2]; rfl) ls (lv_sub hl [0, 1, 2, 3] rfl)
  exact loop (Z i) 0 (by omega) _ rfl ls hl
theorem hi_X3_turn_3 : ∀ w ∈ u_ws RX3 TX3 11, w ∈ wsX3_turn := by decide +kernel
theorem hf_X3_turn_7 : Cond.fieldLink RX3 7 "PegrowModel" "things" "[I" ∈ wsX3_turn := by decide +kernel
theorem hf_X3_turn_13 : Cond.fieldLink RX3 13 "PegrowModel" "sizes" "[I" ∈ wsX3_turn := by decide +kernel
theorem hf_X3_turn_37 : Cond.fieldLink RX3 37 "PegrowModel" "aside" "[I" ∈ wsX3_turn := by decide +kernel
set_option maxHeartbeats 4000000 in
set_option maxRecDepth 100000 in
theorem n_turn (l : Launch) (D : va_G) (cI cP cR : ClassId) (x t z rf rw pl hd ha lo ol as_ md : Nat) (T : Nat → Nat → Int32) (Z : Nat → Nat) (RF R P Hd HA Lo Ol AS : Nat → Int32) (i : Nat) (hi : i < 3) (hz : Z i ≤ 60) : pw_Mm l yX3_turn wsX3_turn ({ frames := 2, cells := 0, slots := 0, locals := 47 } : Room) D cI cP cR [.ref x, .int (nI i)] ([(x, .inr (3, [.ref t, .ref z, .int (nI md), .ref rf, .ref rw, .ref pl, .ref hd, .ref ha, .ref lo, .ref ol, .ref as_])), (t, .inl (cI, 192, .inl (flT T))), (z, .inl (cI, 3, .inl (zI Z))), (rf, .inl (cI, 4, .inl (RF))), (rw, .inl (cI, 4, .inl (R))), (pl, .inl (cI, 4, .inl (P))), (hd, .inl (cI, 4, .inl (Hd))), (ha, .inl (cI, 4, .inl (HA))), (lo, .inl (cI, 4, .inl (Lo))), (ol, .inl (cI, 4, .inl (Ol))), (as_, .inl (cI, 64, .inl (AS)))]) (fun v w => v = some (.int (nI (Z i))) ∧ w = [(x, .inr (3, [.ref t, .ref z, .int (nI md), .ref rf, .ref rw, .ref pl, .ref hd, .ref ha, .ref lo, .ref ol, .ref as_])), (t, .inl (cI, 192, .inl (flT (upR T i (putF (T i) 0 (tnA AS (T i) (Z i) (Z i)) (Z i)))))), (z, .inl (cI, 3, .inl (zI Z))), (rf, .inl (cI, 4, .inl (RF))), (rw, .inl (cI, 4, .inl (R))), (pl, .inl (cI, 4, .inl (P))), (hd, .inl (cI, 4, .inl (Hd))), (ha, .inl (cI, 4, .inl (HA))), (lo, .inl (cI, 4, .inl (Lo))), (ol, .inl (cI, 4, .inl (Ol))), (as_, .inl (cI, 64, .inl (tnA AS (T i) (Z i) (Z i))))]) := by
  refine pw_ofm (cc := cX3_turn) (maxL := 4) (ret := (some .int)) (own := RX3) (by decide +kernel) rfl rfl (Nat.le_of_ble_eq_true rfl) ?_
  intro p_ e_ s m bel meth cd A hE hK hP hD hA hS ls hl
  obtain ⟨hx, hb, hr, hml, hown, hts, hlocks⟩ := hE
  have hNW := hK.2
  have hl : lv_has ls 4 [(0, .ref x), (1, .int (nI i))] := hl
  refine lv_iload_n hx hb dX3_turn_0 rfl (lv_at hl 1 rfl) ?_
  -- m_isRow_t
  refine pw_cSp (As := [.int (nI i)]) (rest := []) ⟨hx, hb, hml, hown, hts⟩ (m_isRow_t l D cI cP cR i (by omega)) (va_cwS 1 hts gX3_turn_X3_isRow rfl rfl rfl (by decide +kernel) ⟨Nat.le_of_ble_eq_true rfl, Nat.le_of_ble_eq_true rfl⟩) hK rfl hl.1 rfl (Nat.le_of_ble_eq_true rfl) dX3_turn_1 ⟨Nat.zero_le _, Nat.zero_le _⟩ ?_
  refine lv_if_ne (tgt := 9) hx hb dX3_turn_4 (by decide) (fun c => ?_) (fun c => absurd c (by decide))
  refine lv_aload_n hx hb dX3_turn_9 rfl (lv_at hl 0 rfl) ?_
  refine va_get (D := D) (ci := 3) (v := .ref z) (C := RX3) (T := TX3) (N := 11) hx hb hts hi_X3_turn_3 hown hK.1 hP 0 rfl rfl 1 (by decide) (hts _ hf_X3_turn_13) (fun _ h9 => h9) rfl dX3_turn_10 ?_
  refine lv_iload_n hx hb dX3_turn_13 rfl (lv_at hl 1 rfl) ?_
  refine pw_iald hx hb hK.1 hP 2 0 rfl rfl (by decide) (by omega) dX3_turn_14 ?_
  refine pw_top (y := nI (Z i)) rfl ?_
  refine lv_istore_n (lv' := [(2, .int (nI (Z i))), (0, .ref x), (1, .int (nI i))]) hx hb dX3_turn_15 rfl hl (by decide) rfl (fun ls hl => ?_)
  refine lv_iconst (v := nI 0) hx hb dX3_turn_16 (by decide) ?_
  refine lv_istore_n (lv' := [(3, .int (nI 0)), (2, .int (nI (Z i))), (0, .ref x), (1, .int (nI i))]) hx hb dX3_turn_17 rfl hl (by decide) rfl (fun ls hl => ?_)
  have loop : ∀ (r : Nat), ∀ (j : Nat), j + r = Z i → ∀ (H : Heap) (locs : List Loc), va_P D vwCl ([(x, .inr (3, [.ref t, .ref z, .int (nI md), .ref rf, .ref rw, .ref pl, .ref hd, .ref ha, .ref lo, .ref ol, .ref as_])), (t, .inl (cI, 192, .inl (flT T))), (z, .inl (cI, 3, .inl (zI Z))), (rf, .inl (cI, 4, .inl (RF))), (rw, .inl (cI, 4, .inl (R))), (pl, .inl (cI, 4, .inl (P))), (hd, .inl (cI, 4, .inl (Hd))), (ha, .inl (cI, 4, .inl (HA))), (lo, .inl (cI, 4, .inl (Lo))), (ol, .inl (cI, 4, .inl (Ol))), (as_, .inl (cI, 64, .inl (tnA AS (T i) (Z i) j)))]) H → va_D A ([(x, .inr (3, [.ref t, .ref z, .int (nI md), .ref rf, .ref rw, .ref pl, .ref hd, .ref ha, .ref lo, .ref ol, .ref as_])), (t, .inl (cI, 192, .inl (flT T))), (z, .inl (cI, 3, .inl (zI Z))), (rf, .inl (cI, 4, .inl (RF))), (rw, .inl (cI, 4, .inl (R))), (pl, .inl (cI, 4, .inl (P))), (hd, .inl (cI, 4, .inl (Hd))), (ha, .inl (cI, 4, .inl (HA))), (lo, .inl (cI, 4, .inl (Lo))), (ol, .inl (cI, 4, .inl (Ol))), (as_, .inl (cI, 64, .inl (tnA AS (T i) (Z i) j)))]) → va_S A s.heap H locs → ∀ ls : Array Slot, lv_has ls 4 [(3, .int (nI j)), (2, .int (nI (Z i))), (0, .ref x), (1, .int (nI i))] → W p_ l e_ ({ frames := 2, cells := 0, slots := 0, locals := 47 } : Room) s m [.ref x, .int (nI i)].toArray bel meth cd H locs 0 0 (MQ bel (pw_Qm (fun v w => v = some (.int (nI (Z i))) ∧ w = [(x, .inr (3, [.ref t, .ref z, .int (nI md), .ref rf, .ref rw, .ref pl, .ref hd, .ref ha, .ref lo, .ref ol, .ref as_])), (t, .inl (cI, 192, .inl (flT (upR T i (putF (T i) 0 (tnA AS (T i) (Z i) (Z i)) (Z i)))))), (z, .inl (cI, 3, .inl (zI Z))), (rf, .inl (cI, 4, .inl (RF))), (rw, .inl (cI, 4, .inl (R))), (pl, .inl (cI, 4, .inl (P))), (hd, .inl (cI, 4, .inl (Hd))), (ha, .inl (cI, 4, .inl (HA))), (lo, .inl (cI, 4, .inl (Lo))), (ol, .inl (cI, 4, .inl (Ol))), (as_, .inl (cI, 64, .inl (tnA AS (T i) (Z i) (Z i))))]) D A) [.ref x, .int (nI i)].toArray s 0 0 A) (F0 m 18 ls []) := by
    intro r
    induction r with
    | zero =>
      intro j hr1 H locs hP hD hS ls hl
      obtain rfl : j = Z i := by omega
      refine lv_iload_n hx hb dX3_turn_18 rfl (lv_at hl 0 rfl) ?_
      refine lv_iload_n hx hb dX3_turn_19 rfl (lv_at hl 1 rfl) ?_
      refine pw_icmp_ge (tgt := 45) hx hb (by omega) (by omega) dX3_turn_20 (by decide) (fun c_1 => ?_) (fun c_1 => ?_)
      · have _h := c_1
        refine lv_iconst (v := nI 0) hx hb dX3_turn_45 (by decide) ?_
        refine lv_istore_n (lv' := [(3, .int (nI 0)), (2, .int (nI (Z i))), (0, .ref x), (1, .int (nI i))]) hx hb dX3_turn_46 rfl hl (by decide) rfl (fun ls hl => ?_)
        have loop2 : ∀ (r : Nat), ∀ (j : Nat), j + r = Z i → ∀ (H : Heap) (locs : List Loc), va_P D vwCl ([(x, .inr (3, [.ref t, .ref z, .int (nI md), .ref rf, .ref rw, .ref pl, .ref hd, .ref ha, .ref lo, .ref ol, .ref as_])), (t, .inl (cI, 192, .inl (flT (upR T i (putF (T i) 0 (tnA AS (T i) (Z i) (Z i)) j))))), (z, .inl (cI, 3, .inl (zI Z))), (rf, .inl (cI, 4, .inl (RF))), (rw, .inl (cI, 4, .inl (R))), (pl, .inl (cI, 4, .inl (P))), (hd, .inl (cI, 4, .inl (Hd))), (ha, .inl (cI, 4, .inl (HA))), (lo, .inl (cI, 4, .inl (Lo))), (ol, .inl (cI, 4, .inl (Ol))), (as_, .inl (cI, 64, .inl (tnA AS (T i) (Z i) (Z i))))]) H → va_D A ([(x, .inr (3, [.ref t, .ref z, .int (nI md), .ref rf, .ref rw, .ref pl, .ref hd, .ref ha, .ref lo, .ref ol, .ref as_])), (t, .inl (cI, 192, .inl (flT (upR T i (putF (T i) 0 (tnA AS (T i) (Z i) (Z i)) j))))), (z, .inl (cI, 3, .inl (zI Z))), (rf, .inl (cI, 4, .inl (RF))), (rw, .inl (cI, 4, .inl (R))), (pl, .inl (cI, 4, .inl (P))), (hd, .inl (cI, 4, .inl (Hd))), (ha, .inl (cI, 4, .inl (HA))), (lo, .inl (cI, 4, .inl (Lo))), (ol, .inl (cI, 4, .inl (Ol))), (as_, .inl (cI, 64, .inl (tnA AS (T i) (Z i) (Z i))))]) → va_S A s.heap H locs → ∀ ls : Array Slot, lv_has ls 4 [(3, .int (nI j)), (2, .int (nI (Z i))), (0, .ref x), (1, .int (nI i))] → W p_ l e_ ({ frames := 2, cells := 0, slots := 0, locals := 47 } : Room) s m [.ref x, .int (nI i)].toArray bel meth cd H locs 0 0 (MQ bel (pw_Qm (fun v w => v = some (.int (nI (Z i))) ∧ w = [(x, .inr (3, [.ref t, .ref z, .int (nI md), .ref rf, .ref rw, .ref pl, .ref hd, .ref ha, .ref lo, .ref ol, .ref as_])), (t, .inl (cI, 192, .inl (flT (upR T i (putF (T i) 0 (tnA AS (T i) (Z i) (Z i)) (Z i)))))), (z, .inl (cI, 3, .inl (zI Z))), (rf, .inl (cI, 4, .inl (RF))), (rw, .inl (cI, 4, .inl (R))), (pl, .inl (cI, 4, .inl (P))), (hd, .inl (cI, 4, .inl (Hd))), (ha, .inl (cI, 4, .inl (HA))), (lo, .inl (cI, 4, .inl (Lo))), (ol, .inl (cI, 4, .inl (Ol))), (as_, .inl (cI, 64, .inl (tnA AS (T i) (Z i) (Z i))))]) D A) [.ref x, .int (nI i)].toArray s 0 0 A) (F0 m 47 ls []) := by
          intro r
          induction r with
          | zero =>
            intro j hr1 H locs hP hD hS ls hl
            obtain rfl : j = Z i := by omega
            refine lv_iload_n hx hb dX3_turn_47 rfl (lv_at hl 0 rfl) ?_
            refine lv_iload_n hx hb dX3_turn_48 rfl (lv_at hl 1 rfl) ?_
            refine pw_icmp_ge (tgt := 75) hx hb (by omega) (by omega) dX3_turn_49 (by decide) (fun c_2 => ?_) (fun c_2 => ?_)
            · have _h := c_2
              refine lv_iload_n hx hb dX3_turn_75 rfl (lv_at hl 1 rfl) ?_
              have hP := hP.sub (ws' := [(x, .inr (3, [.ref t, .ref z, .int (nI md), .ref rf, .ref rw, .ref pl, .ref hd, .ref ha, .ref lo, .ref ol, .ref as_])), (t, .inl (cI, 192, .inl (flT (upR T i (putF (T i) 0 (tnA AS (T i) (Z i) (Z i)) (Z i)))))), (z, .inl (cI, 3, .inl (zI Z))), (rf, .inl (cI, 4, .inl (RF))), (rw, .inl (cI, 4, .inl (R))), (pl, .inl (cI, 4, .inl (P))), (hd, .inl (cI, 4, .inl (Hd))), (ha, .inl (cI, 4, .inl (HA))), (lo, .inl (cI, 4, .inl (Lo))), (ol, .inl (cI, 4, .inl (Ol))), (as_, .inl (cI, 64, .inl (tnA AS (T i) (Z i) (Z i))))]) [0, 1, 2, 3, 4, 5, 6, 7, 8, 9, 10] rfl
              have hD := hD.sub (ws' := [(x, .inr (3, [.ref t, .ref z, .int (nI md), .ref rf, .ref rw, .ref pl, .ref hd, .ref ha, .ref lo, .ref ol, .ref as_])), (t, .inl (cI, 192, .inl (flT (upR T i (putF (T i) 0 (tnA AS (T i) (Z i) (Z i)) (Z i)))))), (z, .inl (cI, 3, .inl (zI Z))), (rf, .inl (cI, 4, .inl (RF))), (rw, .inl (cI, 4, .inl (R))), (pl, .inl (cI, 4, .inl (P))), (hd, .inl (cI, 4, .inl (Hd))), (ha, .inl (cI, 4, .inl (HA))), (lo, .inl (cI, 4, .inl (Lo))), (ol, .inl (cI, 4, .inl (Ol))), (as_, .inl (cI, 64, .inl (tnA AS (T i) (Z i) (Z i))))]) [0, 1, 2, 3, 4, 5, 6, 7, 8, 9, 10] (by decide) rfl
              exact pw_iret hx hb hr (rfl) hlocks dX3_turn_76 hS hP hD (⟨rfl, rfl⟩)
            · exact absurd c_2 (by omega)
          | succ r ih =>
            intro j hr1 H locs hP hD hS ls hl
            refine lv_iload_n hx hb dX3_turn_47 rfl (lv_at hl 0 rfl) ?_
            refine lv_iload_n hx hb dX3_turn_48 rfl (lv_at hl 1 rfl) ?_
            refine pw_icmp_ge (tgt := 75) hx hb (by omega) (by omega) dX3_turn_49 (by decide) (fun c_3 => ?_) (fun c_3 => ?_)
            · exact absurd c_3 (by omega)
            · have _h := c_3
              refine lv_aload_n hx hb dX3_turn_52 rfl (lv_at hl 2 rfl) ?_
              refine va_get (D := D) (ci := 3) (v := .ref t) (C := RX3) (T := TX3) (N := 11) hx hb hts hi_X3_turn_3 hown hK.1 hP 0 rfl rfl 0 (by decide) (hts _ hf_X3_turn_7) (fun _ h9 => h9) rfl dX3_turn_53 ?_
              refine lv_bipush (v := nI 64) hx hb dX3_turn_56 (by decide) ?_
              refine lv_iload_n hx hb dX3_turn_58 rfl (lv_at hl 3 rfl) ?_
              refine pw_imul hx hb dX3_turn_59 ?_
              refine lv_iload_n hx hb dX3_turn_60 rfl (lv_at hl 0 rfl) ?_
              refine pw_iadd hx hb dX3_turn_61 ?_
              refine lv_aload_n hx hb dX3_turn_62 rfl (lv_at hl 2 rfl) ?_
              refine va_get (D := D) (ci := 3) (v := .ref as_) (C := RX3) (T := TX3) (N := 11) hx hb hts hi_X3_turn_3 hown hK.1 hP 0 rfl rfl 10 (by decide) (hts _ hf_X3_turn_37) (fun _ h9 => h9) rfl dX3_turn_63 ?_
              refine lv_iload_n hx hb dX3_turn_66 rfl (lv_at hl 0 rfl) ?_
              refine pw_iald hx hb hK.1 hP 10 0 rfl rfl (by decide) (by omega) dX3_turn_67 ?_
              refine pw_iast hx hb hK.1 hP hD hS 1 0 rfl rfl (by decide) (by omega) dX3_turn_68 (fun H locs hP hD hS => ?_)
              have hP : va_P D vwCl ([(x, .inr (3, [.ref t, .ref z, .int (nI md), .ref rf, .ref rw, .ref pl, .ref hd, .ref ha, .ref lo, .ref ol, .ref as_])), (t, .inl (cI, 192, .inl (upd (flT (upR T i (putF (T i) 0 (tnA AS (T i) (Z i) (Z i)) j))) ((64 * i) + j) ((tnA AS (T i) (Z i) (Z i)) j)))), (z, .inl (cI, 3, .inl (zI Z))), (rf, .inl (cI, 4, .inl (RF))), (rw, .inl (cI, 4, .inl (R))), (pl, .inl (cI, 4, .inl (P))), (hd, .inl (cI, 4, .inl (Hd))), (ha, .inl (cI, 4, .inl (HA))), (lo, .inl (cI, 4, .inl (Lo))), (ol, .inl (cI, 4, .inl (Ol))), (as_, .inl (cI, 64, .inl (tnA AS (T i) (Z i) (Z i))))]) H := hP
              have hD : va_D A ([(x, .inr (3, [.ref t, .ref z, .int (nI md), .ref rf, .ref rw, .ref pl, .ref hd, .ref ha, .ref lo, .ref ol, .ref as_])), (t, .inl (cI, 192, .inl (upd (flT (upR T i (putF (T i) 0 (tnA AS (T i) (Z i) (Z i)) j))) ((64 * i) + j) ((tnA AS (T i) (Z i) (Z i)) j)))), (z, .inl (cI, 3, .inl (zI Z))), (rf, .inl (cI, 4, .inl (RF))), (rw, .inl (cI, 4, .inl (R))), (pl, .inl (cI, 4, .inl (P))), (hd, .inl (cI, 4, .inl (Hd))), (ha, .inl (cI, 4, .inl (HA))), (lo, .inl (cI, 4, .inl (Lo))), (ol, .inl (cI, 4, .inl (Ol))), (as_, .inl (cI, 64, .inl (tnA AS (T i) (Z i) (Z i))))]) := hD
              rw [flT_upd2 _ _ _ _ _ (by omega)] at hP hD
              refine lv_iinc (v := nI (j + 1)) (lv' := [(3, .int (nI (j + 1))), (2, .int (nI (Z i))), (0, .ref x), (1, .int (nI i))]) hx hb dX3_turn_69 hl (k := 0) rfl (pw_inc _ 1) (by decide) rfl (fun ls hl => ?_)
              refine lv_goto (tgt := 47) hx hb dX3_turn_72 (by decide) ?_
              rw [putF_s0] at hP hD
              exact ih (j + 1) (by omega) H locs hP hD hS ls hl
        exact loop2 (Z i) 0 (by omega) H _ (by rw [putF_0, upR_i]; exact hP) (by rw [putF_0, upR_i]; exact hD) hS ls hl
      · exact absurd c_1 (by omega)
    | succ r ih =>
      intro j hr1 H locs hP hD hS ls hl
      refine lv_iload_n hx hb dX3_turn_18 rfl (lv_at hl 0 rfl) ?_
      refine lv_iload_n hx hb dX3_turn_19 rfl (lv_at hl 1 rfl) ?_
      refine pw_icmp_ge (tgt := 45) hx hb (by omega) (by omega) dX3_turn_20 (by decide) (fun c_4 => ?_) (fun c_4 => ?_)
      · exact absurd c_4 (by omega)
      · have _h := c_4
        refine lv_aload_n hx hb dX3_turn_23 rfl (lv_at hl 2 rfl) ?_
        refine va_get (D := D) (ci := 3) (v := .ref as_) (C := RX3) (T := TX3) (N := 11) hx hb hts hi_X3_turn_3 hown hK.1 hP 0 rfl rfl 10 (by decide) (hts _ hf_X3_turn_37) (fun _ h9 => h9) rfl dX3_turn_24 ?_
        refine lv_iload_n hx hb dX3_turn_27 rfl (lv_at hl 0 rfl) ?_
        refine lv_aload_n hx hb dX3_turn_28 rfl (lv_at hl 2 rfl) ?_
        refine lv_iload_n hx hb dX3_turn_29 rfl (lv_at hl 3 rfl) ?_
        refine lv_iload_n hx hb dX3_turn_30 rfl (lv_at hl 1 rfl) ?_
        refine lv_iconst (v := nI 1) hx hb dX3_turn_31 (by decide) ?_
        refine pw_isub hx hb (by omega) dX3_turn_32 ?_
        refine lv_iload_n hx hb dX3_turn_33 rfl (lv_at hl 0 rfl) ?_
        refine pw_isub hx hb (by omega) dX3_turn_34 ?_
        -- m_thing
        refine pw_cVp (As := [.int (nI i), .int (nI (((Z i) - 1) - j))]) (rest := [.int (nI j), .ref as_]) (wc := [(x, .inr (3, [.ref t, .ref z, .int (nI md), .ref rf, .ref rw, .ref pl, .ref hd, .ref ha, .ref lo, .ref ol, .ref as_])), (t, .inl (cI, 192, .inl (flT T)))]) ⟨hx, hb, hml, hown, hts⟩ (m_thing l D cI cP cR x t z rf rw pl hd ha lo ol as_ md T i (((Z i) - 1) - j) (by omega) (by omega)) (cwV 2 hts gX3_turn_X3_thing rfl rfl rfl (by decide +kernel) ⟨Nat.le_of_ble_eq_true rfl, Nat.le_of_ble_eq_true rfl⟩) hK hP hD [0, 1] rfl (by decide) 0 rfl rfl rfl rfl hl.1 rfl (Nat.le_of_ble_eq_true rfl) dX3_turn_35 ⟨Nat.zero_le _, Nat.zero_le _⟩ ?_
        refine pw_iast hx hb hK.1 hP hD hS 10 0 rfl rfl (by decide) (by omega) dX3_turn_38 (fun H locs hP hD hS => ?_)
        have hP : va_P D vwCl ([(x, .inr (3, [.ref t, .ref z, .int (nI md), .ref rf, .ref rw, .ref pl, .ref hd, .ref ha, .ref lo, .ref ol, .ref as_])), (t, .inl (cI, 192, .inl (flT T))), (z, .inl (cI, 3, .inl (zI Z))), (rf, .inl (cI, 4, .inl (RF))), (rw, .inl (cI, 4, .inl (R))), (pl, .inl (cI, 4, .inl (P))), (hd, .inl (cI, 4, .inl (Hd))), (ha, .inl (cI, 4, .inl (HA))), (lo, .inl (cI, 4, .inl (Lo))), (ol, .inl (cI, 4, .inl (Ol))), (as_, .inl (cI, 64, .inl (upd (tnA AS (T i) (Z i) j) j (T i (((Z i) - 1) - j)))))]) H := hP
        have hD : va_D A ([(x, .inr (3, [.ref t, .ref z, .int (nI md), .ref rf, .ref rw, .ref pl, .ref hd, .ref ha, .ref lo, .ref ol, .ref as_])), (t, .inl (cI, 192, .inl (flT T))), (z, .inl (cI, 3, .inl (zI Z))), (rf, .inl (cI, 4, .inl (RF))), (rw, .inl (cI, 4, .inl (R))), (pl, .inl (cI, 4, .inl (P))), (hd, .inl (cI, 4, .inl (Hd))), (ha, .inl (cI, 4, .inl (HA))), (lo, .inl (cI, 4, .inl (Lo))), (ol, .inl (cI, 4, .inl (Ol))), (as_, .inl (cI, 64, .inl (upd (tnA AS (T i) (Z i) j) j (T i (((Z i) - 1) - j)))))]) := hD
        refine lv_iinc (v := nI (j + 1)) (lv' := [(3, .int (nI (j + 1))), (2, .int (nI (Z i))), (0, .ref x), (1, .int (nI i))]) hx hb dX3_turn_39 hl (k := 0) rfl (pw_inc _ 1) (by decide) rfl (fun ls hl => ?_)
        refine lv_goto (tgt := 18) hx hb dX3_turn_42 (by decide) ?_
        rw [tnA_s] at hP hD
        exact ih (j + 1) (by omega) H locs hP hD hS ls hl
  exact loop (Z i) 0 (by omega) s.heap [] (by rw [tnA_0]; exact hP) (by rw [tnA_0]; exact hD) hS ls hl
