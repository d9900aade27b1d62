theorem c_oneIf_1 (l : Launch) (D : va_G) (cI cP cR : ClassId)  : pw_Mp l yX2_oneIf wsX2_oneIf ({ frames := 0, cells := 0, slots := 0, locals := 0 } : Room) D cI cP cR [.int (nI 1)] ([]) (.int (nI 1)) := by
  have h := c_oneIf l D cI cP cR (nI 1)
  rw [if_neg (by decide)] at h
  exact h
theorem c_oneIf_0 (l : Launch) (D : va_G) (cI cP cR : ClassId)  : pw_Mp l yX2_oneIf wsX2_oneIf ({ frames := 0, cells := 0, slots := 0, locals := 0 } : Room) D cI cP cR [.int (nI 0)] ([]) (.int (nI 0)) := by
  have h := c_oneIf l D cI cP cR (nI 0)
  rw [if_pos (by decide)] at h
  exact h
set_option maxHeartbeats 4000000 in
set_option maxRecDepth 100000 in
theorem k_put_x (l : Launch) (D : va_G) (cI cP cR : ClassId) (h qr qp md : Nat) (r0 r1 r2 r3 : Int32) (ro : Nat → Nat) (row name la way : Int32) (hbad : ¬ ((0 ≤ row ∧ row < nI 3) ∧ (0 ≤ name ∧ name < nI 10) ∧ (0 ≤ way ∧ way ≤ nI 2))) : pw_Mp l yX2_put wsX2_put ({ frames := 2, cells := 0, slots := 0, locals := 45 } : Room) D cI cP cR [.ref h, .int (row), .int (name), .int (la), .int (way)] ([(h, .inr (2, [.ref qr, .ref qp, .int (nI md), .int (r0), .int (r1), .int (r2), .int (r3)])), (qr, .inl (cR, 3, .inr (.inr (.inr (.inr (fun i => some (ro i)))))))]) (.int (-1)) := by
  refine pw_ofp (cc := cX2_put) (maxL := 6) (ret := (some .int)) (own := RX2) (by decide +kernel) rfl rfl (Nat.le_of_ble_eq_true rfl) ?_
  intro p_ e_ s m bel meth cd hE hK hP hD ls hl
  obtain ⟨hx, hb, hr, hml, hown, hts, hlocks⟩ := hE
  have hNW := hK.2
  have hl : lv_has ls 6 [(0, .ref h), (1, .int (row)), (2, .int (name)), (3, .int (la)), (4, .int (way))] := hl
  by_cases hx_row : 0 ≤ row ∧ row < nI 3
  · obtain ⟨rj_1, hrj_1, rfl⟩ := pw_inP (by decide) hx_row
    by_cases hx_name : 0 ≤ name ∧ name < nI 10
    · obtain ⟨nj_2, hnj_2, rfl⟩ := pw_inP (by decide) hx_name
      refine lv_aload_n hx hb dX2_put_0 rfl (lv_at hl 0 rfl) ?_
      refine lv_iload_n hx hb dX2_put_1 rfl (lv_at hl 1 rfl) ?_
      -- c_rowOf_i
      refine pw_cVp (As := [.int (nI rj_1)]) (rest := []) (wc := [(h, .inr (2, [.ref qr, .ref qp, .int (nI md), .int (r0), .int (r1), .int (r2), .int (r3)])), (qr, .inl (cR, 3, .inr (.inr (.inr (.inr (fun i => some (ro i)))))))]) ⟨hx, hb, hml, hown, hts⟩ (c_rowOf_i l D cI cP cR h qr qp md r0 r1 r2 r3 ro rj_1 (by omega)) (cwV 1 hts gX2_put_X2_rowOf rfl rfl rfl (by decide +kernel) ⟨Nat.le_of_ble_eq_true rfl, Nat.le_of_ble_eq_true rfl⟩) hK hP hD [0, 1] rfl (by decide) 0 rfl rfl rfl rfl hl.1 rfl (Nat.le_of_ble_eq_true rfl) dX2_put_2 ⟨Nat.zero_le _, Nat.zero_le _⟩ ?_
      refine lv_astore (lv' := [(5, .ref (ro rj_1)), (0, .ref h), (1, .int (nI rj_1)), (2, .int (nI nj_2)), (3, .int (la)), (4, .int (way))]) hx hb dX2_put_5 hl (by decide) rfl (fun ls hl => ?_)
      refine lv_aload hx hb dX2_put_7 (lv_at hl 0 rfl) ?_
      refine lv_ifnull hx hb dX2_put_9 ?_
      refine lv_iload_n hx hb dX2_put_12 rfl (lv_at hl 3 rfl) ?_
      -- c_isName_t
      refine pw_cSp (As := [.int (nI nj_2)]) (rest := []) ⟨hx, hb, hml, hown, hts⟩ (c_isName_t l D cI cP cR nj_2 (by omega)) (va_cwS 1 hts gX2_put_X2_isName rfl rfl rfl (by decide +kernel) ⟨Nat.le_of_ble_eq_true rfl, Nat.le_of_ble_eq_true rfl⟩) hK rfl hl.1 rfl (Nat.le_of_ble_eq_true rfl) dX2_put_13 ⟨Nat.zero_le _, Nat.zero_le _⟩ ?_
      refine lv_if_eq (tgt := 30) hx hb dX2_put_16 (by decide) (fun c => absurd c (by decide)) (fun c => ?_)
      refine lv_iload hx hb dX2_put_19 (lv_at hl 5 rfl) ?_
      refine lv_if_lt (tgt := 30) hx hb dX2_put_21 (by decide) (fun c_3 => ?_) (fun c_3 => ?_)
      · have _h := c_3
        refine lv_iconst (v := -1) hx hb dX2_put_30 (by decide) ?_
        exact pw_piret hx hb hr (rfl) hlocks dX2_put_31 (rfl)
      · have _h := c_3
        refine lv_iload hx hb dX2_put_24 (lv_at hl 5 rfl) ?_
        refine lv_iconst (v := nI 2) hx hb dX2_put_26 (by decide) ?_
        refine lv_icmp_le (tgt := 32) hx hb dX2_put_27 (by decide) (fun c_4 => ?_) (fun c_4 => ?_)
        · exact absurd ⟨hx_row, hx_name, Int32.not_lt.mp c_3, c_4⟩ hbad
        · have _h := c_4
          refine lv_iconst (v := -1) hx hb dX2_put_30 (by decide) ?_
          exact pw_piret hx hb hr (rfl) hlocks dX2_put_31 (rfl)
    · have _h := hx_name
      refine lv_aload_n hx hb dX2_put_0 rfl (lv_at hl 0 rfl) ?_
      refine lv_iload_n hx hb dX2_put_1 rfl (lv_at hl 1 rfl) ?_
      -- c_rowOf_i
      refine pw_cVp (As := [.int (nI rj_1)]) (rest := []) (wc := [(h, .inr (2, [.ref qr, .ref qp, .int (nI md), .int (r0), .int (r1), .int (r2), .int (r3)])), (qr, .inl (cR, 3, .inr (.inr (.inr (.inr (fun i => some (ro i)))))))]) ⟨hx, hb, hml, hown, hts⟩ (c_rowOf_i l D cI cP cR h qr qp md r0 r1 r2 r3 ro rj_1 (by omega)) (cwV 1 hts gX2_put_X2_rowOf rfl rfl rfl (by decide +kernel) ⟨Nat.le_of_ble_eq_true rfl, Nat.le_of_ble_eq_true rfl⟩) hK hP hD [0, 1] rfl (by decide) 0 rfl rfl rfl rfl hl.1 rfl (Nat.le_of_ble_eq_true rfl) dX2_put_2 ⟨Nat.zero_le _, Nat.zero_le _⟩ ?_
      refine lv_astore (lv' := [(5, .ref (ro rj_1)), (0, .ref h), (1, .int (nI rj_1)), (2, .int (name)), (3, .int (la)), (4, .int (way))]) hx hb dX2_put_5 hl (by decide) rfl (fun ls hl => ?_)
      refine lv_aload hx hb dX2_put_7 (lv_at hl 0 rfl) ?_
      refine lv_ifnull hx hb dX2_put_9 ?_
      refine lv_iload_n hx hb dX2_put_12 rfl (lv_at hl 3 rfl) ?_
      -- c_isName_f
      refine pw_cSp (As := [.int (name)]) (rest := []) ⟨hx, hb, hml, hown, hts⟩ (c_isName_f l D cI cP cR name hx_name) (va_cwS 1 hts gX2_put_X2_isName rfl rfl rfl (by decide +kernel) ⟨Nat.le_of_ble_eq_true rfl, Nat.le_of_ble_eq_true rfl⟩) hK rfl hl.1 rfl (Nat.le_of_ble_eq_true rfl) dX2_put_13 ⟨Nat.zero_le _, Nat.zero_le _⟩ ?_
      refine lv_if_eq (tgt := 30) hx hb dX2_put_16 (by decide) (fun c => ?_) (fun c => absurd c (by decide))
      refine lv_iconst (v := -1) hx hb dX2_put_30 (by decide) ?_
      exact pw_piret hx hb hr (rfl) hlocks dX2_put_31 (rfl)
  · have _h := hx_row
    refine lv_aload_n hx hb dX2_put_0 rfl (lv_at hl 0 rfl) ?_
    refine lv_iload_n hx hb dX2_put_1 rfl (lv_at hl 1 rfl) ?_
    -- c_rowOf_n
    refine pw_cVp (As := [.int (row)]) (rest := []) (wc := [(h, .inr (2, [.ref qr, .ref qp, .int (nI md), .int (r0), .int (r1), .int (r2), .int (r3)])), (qr, .inl (cR, 3, .inr (.inr (.inr (.inr (fun i => some (ro i)))))))]) ⟨hx, hb, hml, hown, hts⟩ (c_rowOf_n l D cI cP cR h qr qp md r0 r1 r2 r3 ro row hx_row) (cwV 1 hts gX2_put_X2_rowOf rfl rfl rfl (by decide +kernel) ⟨Nat.le_of_ble_eq_true rfl, Nat.le_of_ble_eq_true rfl⟩) hK hP hD [0, 1] rfl (by decide) 0 rfl rfl rfl rfl hl.1 rfl (Nat.le_of_ble_eq_true rfl) dX2_put_2 ⟨Nat.zero_le _, Nat.zero_le _⟩ ?_
    refine lv_astoreN (lv' := [(5, .null), (0, .ref h), (1, .int (row)), (2, .int (name)), (3, .int (la)), (4, .int (way))]) hx hb dX2_put_5 hl (by decide) rfl (fun ls hl => ?_)
    refine lv_aloadN hx hb dX2_put_7 (lv_at hl 0 rfl) ?_
    refine lv_ifnullN (tgt := 30) hx hb dX2_put_9 (by decide) ?_
    refine lv_iconst (v := -1) hx hb dX2_put_30 (by decide) ?_
    exact pw_piret hx hb hr (rfl) hlocks dX2_put_31 (rfl)
set_option maxHeartbeats 4000000 in
set_option maxRecDepth 100000 in
theorem k_put_f (l : Launch) (D : va_G) (cI cP cR : ClassId) (h qr qp md : Nat) (r0 r1 r2 r3 : Int32) (ro : Nat → Nat) (i a n : Nat) (ch : Int32) (f : Nat → Int32) (hi : i < 3) (hn : n ≤ 60) (nm wy : Nat) (la : Int32) (hnm : nm < 10) (hw : wy ≤ 2) (hf : n = 60) : pw_Mp l yX2_put wsX2_put ({ frames := 2, cells := 0, slots := 0, locals := 45 } : Room) D cI cP cR [.ref h, .int (nI i), .int (nI nm), .int (la), .int (nI wy)] ([(h, .inr (2, [.ref qr, .ref qp, .int (nI md), .int (r0), .int (r1), .int (r2), .int (r3)])), (qr, .inl (cR, 3, .inr (.inr (.inr (.inr (fun i => some (ro i))))))), (ro i, .inr (1, [.ref a, .int (nI n), .int (ch)])), (a, .inl (cI, 60, .inl (f)))]) (.int (-3)) := by
  refine pw_ofp (cc := cX2_put) (maxL := 6) (ret := (some .int)) (own := RX2) (by decide +kernel) rfl rfl (Nat.le_of_ble_eq_true rfl) ?_
  intro p_ e_ s m bel meth cd hE hK hP hD ls hl
  obtain ⟨hx, hb, hr, hml, hown, hts, hlocks⟩ := hE
  have hNW := hK.2
  have hl : lv_has ls 6 [(0, .ref h), (1, .int (nI i)), (2, .int (nI nm)), (3, .int (la)), (4, .int (nI wy))] := hl
  refine lv_aload_n hx hb dX2_put_0 rfl (lv_at hl 0 rfl) ?_
  refine lv_iload_n hx hb dX2_put_1 rfl (lv_at hl 1 rfl) ?_
  -- c_rowOf_i
  refine pw_cVp (As := [.int (nI i)]) (rest := []) (wc := [(h, .inr (2, [.ref qr, .ref qp, .int (nI md), .int (r0), .int (r1), .int (r2), .int (r3)])), (qr, .inl (cR, 3, .inr (.inr (.inr (.inr (fun i => some (ro i)))))))]) ⟨hx, hb, hml, hown, hts⟩ (c_rowOf_i l D cI cP cR h qr qp md r0 r1 r2 r3 ro i (by omega)) (cwV 1 hts gX2_put_X2_rowOf rfl rfl rfl (by decide +kernel) ⟨Nat.le_of_ble_eq_true rfl, Nat.le_of_ble_eq_true rfl⟩) hK hP hD [0, 1] rfl (by decide) 0 rfl rfl rfl rfl hl.1 rfl (Nat.le_of_ble_eq_true rfl) dX2_put_2 ⟨Nat.zero_le _, Nat.zero_le _⟩ ?_
  refine lv_astore (lv' := [(5, .ref (ro i)), (0, .ref h), (1, .int (nI i)), (2, .int (nI nm)), (3, .int (la)), (4, .int (nI wy))]) hx hb dX2_put_5 hl (by decide) rfl (fun ls hl => ?_)
  refine lv_aload hx hb dX2_put_7 (lv_at hl 0 rfl) ?_
  refine lv_ifnull hx hb dX2_put_9 ?_
  refine lv_iload_n hx hb dX2_put_12 rfl (lv_at hl 3 rfl) ?_
  -- c_isName_t
  refine pw_cSp (As := [.int (nI nm)]) (rest := []) ⟨hx, hb, hml, hown, hts⟩ (c_isName_t l D cI cP cR nm (by omega)) (va_cwS 1 hts gX2_put_X2_isName rfl rfl rfl (by decide +kernel) ⟨Nat.le_of_ble_eq_true rfl, Nat.le_of_ble_eq_true rfl⟩) hK rfl hl.1 rfl (Nat.le_of_ble_eq_true rfl) dX2_put_13 ⟨Nat.zero_le _, Nat.zero_le _⟩ ?_
  refine lv_if_eq (tgt := 30) hx hb dX2_put_16 (by decide) (fun c => absurd c (by decide)) (fun c => ?_)
  refine lv_iload hx hb dX2_put_19 (lv_at hl 5 rfl) ?_
  refine pw_if_lt (tgt := 30) hx hb (by omega) dX2_put_21 (by decide) ?_
  refine lv_iload hx hb dX2_put_24 (lv_at hl 5 rfl) ?_
  refine lv_iconst (v := nI 2) hx hb dX2_put_26 (by decide) ?_
  refine pw_icmp_le (tgt := 32) hx hb (by omega) (by omega) dX2_put_27 (by decide) (fun c_1 => ?_) (fun c_1 => ?_)
  · have _h := c_1
    refine lv_aload hx hb dX2_put_32 (lv_at hl 0 rfl) ?_
    refine lv_iconst (v := nI 1) hx hb dX2_put_34 (by decide) ?_
    -- c_hasRoomFor_f
    refine pw_cVp (As := [.int (nI 1)]) (rest := []) (wc := [(ro i, .inr (1, [.ref a, .int (nI n), .int (ch)])), (a, .inl (cI, 60, .inl (f)))]) ⟨hx, hb, hml, hown, hts⟩ (c_hasRoomFor_f l D cI cP cR (ro i) a n ch f 1 (by omega) (by omega) (by omega)) (cwV 1 hts gX2_put_X1_hasRoomFor rfl rfl rfl (by decide +kernel) ⟨Nat.le_of_ble_eq_true rfl, Nat.le_of_ble_eq_true rfl⟩) hK hP hD [2, 3] rfl (by decide) 0 rfl rfl rfl rfl hl.1 rfl (Nat.le_of_ble_eq_true rfl) dX2_put_35 ⟨Nat.zero_le _, Nat.zero_le _⟩ ?_
    refine lv_if_ne (tgt := 44) hx hb dX2_put_38 (by decide) (fun c => absurd c (by decide)) (fun c => ?_)
    refine lv_bipush (v := -3) hx hb dX2_put_41 (by decide) ?_
    exact pw_piret hx hb hr (rfl) hlocks dX2_put_43 (rfl)
  · exact absurd c_1 (by omega)
theorem hi_X2_put_1 : ∀ w ∈ u_ws RX1 TX1 3, w ∈ wsX2_put := by decide +kernel
set_option maxHeartbeats 4000000 in
set_option maxRecDepth 100000 in
theorem k_put (l : Launch) (D : va_G) (cI cP cR : ClassId) (h qr qp md : Nat) (r0 r1 r2 r3 : Int32) (ro : Nat → Nat) (i a n : Nat) (ch : Int32) (f : Nat → Int32) (hi : i < 3) (hn : n ≤ 60) (nm wy : Nat) (la : Int32) (hnm : nm < 10) (hw : wy ≤ 2) (hf : n < 60) : pw_Mm l yX2_put wsX2_put ({ frames := 2, cells := 0, slots := 0, locals := 45 } : Room) D cI cP cR [.ref h, .int (nI i), .int (nI nm), .int (la), .int (nI wy)] ([(h, .inr (2, [.ref qr, .ref qp, .int (nI md), .int (r0), .int (r1), .int (r2), .int (r3)])), (qr, .inl (cR, 3, .inr (.inr (.inr (.inr (fun i => some (ro i))))))), (ro i, .inr (1, [.ref a, .int (nI n), .int (ch)])), (a, .inl (cI, 60, .inl (f)))]) (fun v w => v = some (.int (nI (n + 1))) ∧ w = [(h, .inr (2, [.ref qr, .ref qp, .int (nI (md + 1)), .int (r0), .int (r1), .int (r2), .int (r3)])), (qr, .inl (cR, 3, .inr (.inr (.inr (.inr (fun i => some (ro i))))))), (ro i, .inr (1, [.ref a, .int (nI (n + 1)), .int (ch + nI 1)])), (a, .inl (cI, 60, .inl (upd (opn f (plF la n) 1 n) (plF la n) (nI ((md * 10) + nm)))))]) := by
  refine pw_ofm (cc := cX2_put) (maxL := 6) (ret := (some .int)) (own := RX2) (by decide +kernel) rfl rfl (Nat.le_of_ble_eq_true rfl) ?_
  intro p_ e_ s m bel meth cd A hE hK hP hD hA hS ls hl
  obtain ⟨hx, hb, hr, hml, hown, hts, hlocks⟩ := hE
  have hNW := hK.2
  have hl : lv_has ls 6 [(0, .ref h), (1, .int (nI i)), (2, .int (nI nm)), (3, .int (la)), (4, .int (nI wy))] := hl
  refine lv_aload_n hx hb dX2_put_0 rfl (lv_at hl 0 rfl) ?_
  refine lv_iload_n hx hb dX2_put_1 rfl (lv_at hl 1 rfl) ?_
  -- c_rowOf_i
  refine pw_cVp (As := [.int (nI i)]) (rest := []) (wc := [(h, .inr (2, [.ref qr, .ref qp, .int (nI md), .int (r0), .int (r1), .int (r2), .int (r3)])), (qr, .inl (cR, 3, .inr (.inr (.inr (.inr (fun i => some (ro i)))))))]) ⟨hx, hb, hml, hown, hts⟩ (c_rowOf_i l D cI cP cR h qr qp md r0 r1 r2 r3 ro i (by omega)) (cwV 1 hts gX2_put_X2_rowOf rfl rfl rfl (by decide +kernel) ⟨Nat.le_of_ble_eq_true rfl, Nat.le_of_ble_eq_true rfl⟩) hK hP hD [0, 1] rfl (by decide) 0 rfl rfl rfl rfl hl.1 rfl (Nat.le_of_ble_eq_true rfl) dX2_put_2 ⟨Nat.zero_le _, Nat.zero_le _⟩ ?_
  refine lv_astore (lv' := [(5, .ref (ro i)), (0, .ref h), (1, .int (nI i)), (2, .int (nI nm)), (3, .int (la)), (4, .int (nI wy))]) hx hb dX2_put_5 hl (by decide) rfl (fun ls hl => ?_)
  refine lv_aload hx hb dX2_put_7 (lv_at hl 0 rfl) ?_
  refine lv_ifnull hx hb dX2_put_9 ?_
  refine lv_iload_n hx hb dX2_put_12 rfl (lv_at hl 3 rfl) ?_
  -- c_isName_t
  refine pw_cSp (As := [.int (nI nm)]) (rest := []) ⟨hx, hb, hml, hown, hts⟩ (c_isName_t l D cI cP cR nm (by omega)) (va_cwS 1 hts gX2_put_X2_isName rfl rfl rfl (by decide +kernel) ⟨Nat.le_of_ble_eq_true rfl, Nat.le_of_ble_eq_true rfl⟩) hK rfl hl.1 rfl (Nat.le_of_ble_eq_true rfl) dX2_put_13 ⟨Nat.zero_le _, Nat.zero_le _⟩ ?_
  refine lv_if_eq (tgt := 30) hx hb dX2_put_16 (by decide) (fun c => absurd c (by decide)) (fun c => ?_)
  refine lv_iload hx hb dX2_put_19 (lv_at hl 5 rfl) ?_
  refine pw_if_lt (tgt := 30) hx hb (by omega) dX2_put_21 (by decide) ?_
  refine lv_iload hx hb dX2_put_24 (lv_at hl 5 rfl) ?_
  refine lv_iconst (v := nI 2) hx hb dX2_put_26 (by decide) ?_
  refine pw_icmp_le (tgt := 32) hx hb (by omega) (by omega) dX2_put_27 (by decide) (fun c_1 => ?_) (fun c_1 => ?_)
  · have _h := c_1
    refine lv_aload hx hb dX2_put_32 (lv_at hl 0 rfl) ?_
    refine lv_iconst (v := nI 1) hx hb dX2_put_34 (by decide) ?_
    -- c_hasRoomFor_t
    refine pw_cVp (As := [.int (nI 1)]) (rest := []) (wc := [(ro i, .inr (1, [.ref a, .int (nI n), .int (ch)])), (a, .inl (cI, 60, .inl (f)))]) ⟨hx, hb, hml, hown, hts⟩ (c_hasRoomFor_t l D cI cP cR (ro i) a n ch f 1 (by omega)) (cwV 1 hts gX2_put_X1_hasRoomFor rfl rfl rfl (by decide +kernel) ⟨Nat.le_of_ble_eq_true rfl, Nat.le_of_ble_eq_true rfl⟩) hK hP hD [2, 3] rfl (by decide) 0 rfl rfl rfl rfl hl.1 rfl (Nat.le_of_ble_eq_true rfl) dX2_put_35 ⟨Nat.zero_le _, Nat.zero_le _⟩ ?_
    refine lv_if_ne (tgt := 44) hx hb dX2_put_38 (by decide) (fun c => ?_) (fun c => absurd c (by decide))
    refine lv_aload hx hb dX2_put_44 (lv_at hl 0 rfl) ?_
    refine lv_iload_n hx hb dX2_put_46 rfl (lv_at hl 4 rfl) ?_
    refine lv_if_eq (tgt := 58) hx hb dX2_put_47 (by decide) (fun c_2 => ?_) (fun c_2 => ?_)
    · have _h := c_2
      refine lv_iconst (v := nI 0) hx hb dX2_put_58 (by decide) ?_
      refine lv_aload_n hx hb dX2_put_59 rfl (lv_at hl 1 rfl) ?_
      refine lv_iload_n hx hb dX2_put_60 rfl (lv_at hl 3 rfl) ?_
      -- c_newThing
      refine pw_cVm (As := [.int (nI nm)]) (rest := [.int (nI 0), .ref (ro i)]) (wc := [(h, .inr (2, [.ref qr, .ref qp, .int (nI md), .int (r0), .int (r1), .int (r2), .int (r3)]))]) (wr := [(qr, .inl (cR, 3, .inr (.inr (.inr (.inr (fun i => some (ro i))))))), (ro i, .inr (1, [.ref a, .int (nI n), .int (ch)])), (a, .inl (cI, 60, .inl (f)))]) ⟨hx, hb, hml, hown, hts⟩ (c_newThing l D cI cP cR h qr qp md r0 r1 r2 r3 nm) (cwV 1 hts gX2_put_X2_newThing rfl rfl rfl (by decide +kernel) ⟨Nat.le_of_ble_eq_true rfl, Nat.le_of_ble_eq_true rfl⟩) hK hP hD hS hA [0] [1, 2, 3] rfl rfl (by decide) (by decide) (by decide) 0 rfl rfl rfl rfl hl.1 rfl (Nat.le_of_ble_eq_true rfl) dX2_put_61 ⟨Nat.zero_le _, Nat.zero_le _⟩ (fun v1 w1 H locs hq hP hD hS => ?_)
      rcases hq with ⟨rfl, rfl⟩
      have hP : va_P D vwCl ([(qr, .inl (cR, 3, .inr (.inr (.inr (.inr (fun i => some (ro i))))))), (ro i, .inr (1, [.ref a, .int (nI n), .int (ch)])), (a, .inl (cI, 60, .inl (f))), (h, .inr (2, [.ref qr, .ref qp, .int (nI (md + 1)), .int (r0), .int (r1), .int (r2), .int (r3)]))]) H := hP
      have hD : va_D A ([(qr, .inl (cR, 3, .inr (.inr (.inr (.inr (fun i => some (ro i))))))), (ro i, .inr (1, [.ref a, .int (nI n), .int (ch)])), (a, .inl (cI, 60, .inl (f))), (h, .inr (2, [.ref qr, .ref qp, .int (nI (md + 1)), .int (r0), .int (r1), .int (r2), .int (r3)]))]) := hD
      refine W.eq (g2 := F0 m 64 ls [.int (nI ((md * 10) + nm)), .int (nI 0), .ref (ro i)]) rfl ?_
      -- c_putAt
      refine pw_cVm (As := [.int (nI 0), .int (nI ((md * 10) + nm))]) (rest := []) (wc := [(ro i, .inr (1, [.ref a, .int (nI n), .int (ch)])), (a, .inl (cI, 60, .inl (f)))]) (wr := [(qr, .inl (cR, 3, .inr (.inr (.inr (.inr (fun i => some (ro i))))))), (h, .inr (2, [.ref qr, .ref qp, .int (nI (md + 1)), .int (r0), .int (r1), .int (r2), .int (r3)]))]) ⟨hx, hb, hml, hown, hts⟩ (c_putAt l D cI cP cR (ro i) a n ch f 0 (nI ((md * 10) + nm)) (by omega) (by omega)) (cwV 2 hts gX2_put_X1_putAt rfl rfl rfl (by decide +kernel) ⟨Nat.le_of_ble_eq_true rfl, Nat.le_of_ble_eq_true rfl⟩) hK hP hD hS hA [1, 2] [0, 3] rfl rfl (by decide) (by decide) (by decide) 0 rfl rfl rfl rfl hl.1 rfl (Nat.le_of_ble_eq_true rfl) dX2_put_64 ⟨Nat.zero_le _, Nat.zero_le _⟩ (fun v1 w1 H locs hq hP hD hS => ?_)
      rcases hq with ⟨rfl, rfl⟩
      have hP : va_P D vwCl ([(qr, .inl (cR, 3, .inr (.inr (.inr (.inr (fun i => some (ro i))))))), (h, .inr (2, [.ref qr, .ref qp, .int (nI (md + 1)), .int (r0), .int (r1), .int (r2), .int (r3)])), (ro i, .inr (1, [.ref a, .int (nI (n + 1)), .int (ch + nI 1)])), (a, .inl (cI, 60, .inl (upd (opn f 0 1 n) 0 (nI ((md * 10) + nm)))))]) H := hP
      have hD : va_D A ([(qr, .inl (cR, 3, .inr (.inr (.inr (.inr (fun i => some (ro i))))))), (h, .inr (2, [.ref qr, .ref qp, .int (nI (md + 1)), .int (r0), .int (r1), .int (r2), .int (r3)])), (ro i, .inr (1, [.ref a, .int (nI (n + 1)), .int (ch + nI 1)])), (a, .inl (cI, 60, .inl (upd (opn f 0 1 n) 0 (nI ((md * 10) + nm)))))]) := hD
      refine W.eq (g2 := F0 m 67 ls []) rfl ?_
      refine lv_aload hx hb dX2_put_67 (lv_at hl 0 rfl) ?_
      refine va_getN (D := D) (ci := 1) (v := .int (nI (n + 1))) (C := RX1) (T := TX1) (N := 3) hx hb hts hi_X2_put_1 hown hK.1 hP 2 rfl rfl 1 (by decide) (va_Nw.use rfl hNW.1) (fun _ h9 => h9) rfl dX2_put_69 ?_
      have hP := hP.sub (ws' := [(h, .inr (2, [.ref qr, .ref qp, .int (nI (md + 1)), .int (r0), .int (r1), .int (r2), .int (r3)])), (qr, .inl (cR, 3, .inr (.inr (.inr (.inr (fun i => some (ro i))))))), (ro i, .inr (1, [.ref a, .int (nI (n + 1)), .int (ch + nI 1)])), (a, .inl (cI, 60, .inl (upd (opn f 0 1 n) 0 (nI ((md * 10) + nm)))))]) [1, 0, 2, 3] rfl
      have hD := hD.sub (ws' := [(h, .inr (2, [.ref qr, .ref qp, .int (nI (md + 1)), .int (r0), .int (r1), .int (r2), .int (r3)])), (qr, .inl (cR, 3, .inr (.inr (.inr (.inr (fun i => some (ro i))))))), (ro i, .inr (1, [.ref a, .int (nI (n + 1)), .int (ch + nI 1)])), (a, .inl (cI, 60, .inl (upd (opn f 0 1 n) 0 (nI ((md * 10) + nm)))))]) [1, 0, 2, 3] (by decide) rfl
      exact pw_iret hx hb hr (rfl) hlocks dX2_put_72 hS hP hD (⟨rfl, by unfold plF; rw [if_pos c_2]⟩)
    · have _h := c_2
      refine lv_aload hx hb dX2_put_50 (lv_at hl 0 rfl) ?_
      refine va_getN (D := D) (ci := 1) (v := .int (nI n)) (C := RX1) (T := TX1) (N := 3) hx hb hts hi_X2_put_1 hown hK.1 hP 2 rfl rfl 1 (by decide) (va_Nw.use rfl hNW.1) (fun _ h9 => h9) rfl dX2_put_52 ?_
      refine lv_goto (tgt := 59) hx hb dX2_put_55 (by decide) ?_
      refine lv_aload_n hx hb dX2_put_59 rfl (lv_at hl 1 rfl) ?_
      refine lv_iload_n hx hb dX2_put_60 rfl (lv_at hl 3 rfl) ?_
      -- c_newThing
      refine pw_cVm (As := [.int (nI nm)]) (rest := [.int (nI n), .ref (ro i)]) (wc := [(h, .inr (2, [.ref qr, .ref qp, .int (nI md), .int (r0), .int (r1), .int (r2), .int (r3)]))]) (wr := [(qr, .inl (cR, 3, .inr (.inr (.inr (.inr (fun i => some (ro i))))))), (ro i, .inr (1, [.ref a, .int (nI n), .int (ch)])), (a, .inl (cI, 60, .inl (f)))]) ⟨hx, hb, hml, hown, hts⟩ (c_newThing l D cI cP cR h qr qp md r0 r1 r2 r3 nm) (cwV 1 hts gX2_put_X2_newThing rfl rfl rfl (by decide +kernel) ⟨Nat.le_of_ble_eq_true rfl, Nat.le_of_ble_eq_true rfl⟩) hK hP hD hS hA [0] [1, 2, 3] rfl rfl (by decide) (by decide) (by decide) 0 rfl rfl rfl rfl hl.1 rfl (Nat.le_of_ble_eq_true rfl) dX2_put_61 ⟨Nat.zero_le _, Nat.zero_le _⟩ (fun v1 w1 H locs hq hP hD hS => ?_)
      rcases hq with ⟨rfl, rfl⟩
      have hP : va_P D vwCl ([(qr, .inl (cR, 3, .inr (.inr (.inr (.inr (fun i => some (ro i))))))), (ro i, .inr (1, [.ref a, .int (nI n), .int (ch)])), (a, .inl (cI, 60, .inl (f))), (h, .inr (2, [.ref qr, .ref qp, .int (nI (md + 1)), .int (r0), .int (r1), .int (r2), .int (r3)]))]) H := hP
      have hD : va_D A ([(qr, .inl (cR, 3, .inr (.inr (.inr (.inr (fun i => some (ro i))))))), (ro i, .inr (1, [.ref a, .int (nI n), .int (ch)])), (a, .inl (cI, 60, .inl (f))), (h, .inr (2, [.ref qr, .ref qp, .int (nI (md + 1)), .int (r0), .int (r1), .int (r2), .int (r3)]))]) := hD
      refine W.eq (g2 := F0 m 64 ls [.int (nI ((md * 10) + nm)), .int (nI n), .ref (ro i)]) rfl ?_
      -- c_putAt
      refine pw_cVm (As := [.int (nI n), .int (nI ((md * 10) + nm))]) (rest := []) (wc := [(ro i, .inr (1, [.ref a, .int (nI n), .int (ch)])), (a, .inl (cI, 60, .inl (f)))]) (wr := [(qr, .inl (cR, 3, .inr (.inr (.inr (.inr (fun i => some (ro i))))))), (h, .inr (2, [.ref qr, .ref qp, .int (nI (md + 1)), .int (r0), .int (r1), .int (r2), .int (r3)]))]) ⟨hx, hb, hml, hown, hts⟩ (c_putAt l D cI cP cR (ro i) a n ch f n (nI ((md * 10) + nm)) (by omega) (by omega)) (cwV 2 hts gX2_put_X1_putAt rfl rfl rfl (by decide +kernel) ⟨Nat.le_of_ble_eq_true rfl, Nat.le_of_ble_eq_true rfl⟩) hK hP hD hS hA [1, 2] [0, 3] rfl rfl (by decide) (by decide) (by decide) 0 rfl rfl rfl rfl hl.1 rfl (Nat.le_of_ble_eq_true rfl) dX2_put_64 ⟨Nat.zero_le _, Nat.zero_le _⟩ (fun v1 w1 H locs hq hP hD hS => ?_)
      rcases hq with ⟨rfl, rfl⟩
      have hP : va_P D vwCl ([(qr, .inl (cR, 3, .inr (.inr (.inr (.inr (fun i => some (ro i))))))), (h, .inr (2, [.ref qr, .ref qp, .int (nI (md + 1)), .int (r0), .int (r1), .int (r2), .int (r3)])), (ro i, .inr (1, [.ref a, .int (nI (n + 1)), .int (ch + nI 1)])), (a, .inl (cI, 60, .inl (upd (opn f n 1 n) n (nI ((md * 10) + nm)))))]) H := hP
      have hD : va_D A ([(qr, .inl (cR, 3, .inr (.inr (.inr (.inr (fun i => some (ro i))))))), (h, .inr (2, [.ref qr, .ref qp, .int (nI (md + 1)), .int (r0), .int (r1), .int (r2), .int (r3)])), (ro i, .inr (1, [.ref a, .int (nI (n + 1)), .int (ch + nI 1)])), (a, .inl (cI, 60, .inl (upd (opn f n 1 n) n (nI ((md * 10) + nm)))))]) := hD
      refine W.eq (g2 := F0 m 67 ls []) rfl ?_
      refine lv_aload hx hb dX2_put_67 (lv_at hl 0 rfl) ?_
      refine va_getN (D := D) (ci := 1) (v := .int (nI (n + 1))) (C := RX1) (T := TX1) (N := 3) hx hb hts hi_X2_put_1 hown hK.1 hP 2 rfl rfl 1 (by decide) (va_Nw.use rfl hNW.1) (fun _ h9 => h9) rfl dX2_put_69 ?_
      have hP := hP.sub (ws' := [(h, .inr (2, [.ref qr, .ref qp, .int (nI (md + 1)), .int (r0), .int (r1), .int (r2), .int (r3)])), (qr, .inl (cR, 3, .inr (.inr (.inr (.inr (fun i => some (ro i))))))), (ro i, .inr (1, [.ref a, .int (nI (n + 1)), .int (ch + nI 1)])), (a, .inl (cI, 60, .inl (upd (opn f n 1 n) n (nI ((md * 10) + nm)))))]) [1, 0, 2, 3] rfl
      have hD := hD.sub (ws' := [(h, .inr (2, [.ref qr, .ref qp, .int (nI (md + 1)), .int (r0), .int (r1), .int (r2), .int (r3)])), (qr, .inl (cR, 3, .inr (.inr (.inr (.inr (fun i => some (ro i))))))), (ro i, .inr (1, [.ref a, .int (nI (n + 1)), .int (ch + nI 1)])), (a, .inl (cI, 60, .inl (upd (opn f n 1 n) n (nI ((md * 10) + nm)))))]) [1, 0, 2, 3] (by decide) rfl
      exact pw_iret hx hb hr (rfl) hlocks dX2_put_72 hS hP hD (⟨rfl, by unfold plF; rw [if_neg c_2]⟩)
  · exact absurd c_1 (by omega)
set_option maxHeartbeats 4000000 in
set_option maxRecDepth 100000 in
theorem k_end_x (l : Launch) (D : va_G) (cI cP cR : ClassId) (h qr qp md : Nat) (r0 r1 r2 r3 : Int32) (ro : Nat → Nat) (row la way : Int32) (hbad : ¬ ((0 ≤ row ∧ row < nI 3) ∧ (0 ≤ way ∧ way ≤ (if la = 0 then nI 3 else nI 1)))) : pw_Mp l yX2_end wsX2_end ({ frames := 2, cells := 0, slots := 0, locals := 42 } : Room) D cI cP cR [.ref h, .int (row), .int (la), .int (way)] ([(h, .inr (2, [.ref qr, .ref qp, .int (nI md), .int (r0), .int (r1), .int (r2), .int (r3)])), (qr, .inl (cR, 3, .inr (.inr (.inr (.inr (fun i => some (ro i)))))))]) (.int (-1)) := by
  refine pw_ofp (cc := cX2_end) (maxL := 5) (ret := (some .int)) (own := RX2) (by decide +kernel) rfl rfl (Nat.le_of_ble_eq_true rfl) ?_
  intro p_ e_ s m bel meth cd hE hK hP hD ls hl
  obtain ⟨hx, hb, hr, hml, hown, hts, hlocks⟩ := hE
  have hNW := hK.2
  have hl : lv_has ls 5 [(0, .ref h), (1, .int (row)), (2, .int (la)), (3, .int (way))] := hl
  by_cases hx_row : 0 ≤ row ∧ row < nI 3
  · obtain ⟨rj_1, hrj_1, rfl⟩ := pw_inP (by decide) hx_row
    refine lv_aload_n hx hb dX2_end_0 rfl (lv_at hl 0 rfl) ?_
    refine lv_iload_n hx hb dX2_end_1 rfl (lv_at hl 1 rfl) ?_
    -- c_rowOf_i
    refine pw_cVp (As := [.int (nI rj_1)]) (rest := []) (wc := [(h, .inr (2, [.ref qr, .ref qp, .int (nI md), .int (r0), .int (r1), .int (r2), .int (r3)])), (qr, .inl (cR, 3, .inr (.inr (.inr (.inr (fun i => some (ro i)))))))]) ⟨hx, hb, hml, hown, hts⟩ (c_rowOf_i l D cI cP cR h qr qp md r0 r1 r2 r3 ro rj_1 (by omega)) (cwV 1 hts gX2_end_X2_rowOf rfl rfl rfl (by decide +kernel) ⟨Nat.le_of_ble_eq_true rfl, Nat.le_of_ble_eq_true rfl⟩) hK hP hD [0, 1] rfl (by decide) 0 rfl rfl rfl rfl hl.1 rfl (Nat.le_of_ble_eq_true rfl) dX2_end_2 ⟨Nat.zero_le _, Nat.zero_le _⟩ ?_
    refine lv_astore (lv' := [(4, .ref (ro rj_1)), (0, .ref h), (1, .int (nI rj_1)), (2, .int (la)), (3, .int (way))]) hx hb dX2_end_5 hl (by decide) rfl (fun ls hl => ?_)
    refine lv_aload hx hb dX2_end_7 (lv_at hl 0 rfl) ?_
    refine lv_ifnull hx hb dX2_end_9 ?_
    refine lv_iload_n hx hb dX2_end_12 rfl (lv_at hl 4 rfl) ?_
    refine lv_iconst (v := nI 3) hx hb dX2_end_13 (by decide) ?_
    refine lv_iload_n hx hb dX2_end_14 rfl (lv_at hl 3 rfl) ?_
    -- c_isEndWay_f
    refine pw_cSp (As := [.int (way), .int (nI 3), .int (la)]) (rest := []) ⟨hx, hb, hml, hown, hts⟩ (c_isEndWay_f l D cI cP cR way (nI 3) la (fun h => hbad ⟨hx_row, h⟩)) (va_cwS 3 hts gX2_end_X2_isEndWay rfl rfl rfl (by decide +kernel) ⟨Nat.le_of_ble_eq_true rfl, Nat.le_of_ble_eq_true rfl⟩) hK rfl hl.1 rfl (Nat.le_of_ble_eq_true rfl) dX2_end_15 ⟨Nat.zero_le _, Nat.zero_le _⟩ ?_
    refine lv_if_ne (tgt := 23) hx hb dX2_end_18 (by decide) (fun c => absurd c (by decide)) (fun c => ?_)
    refine lv_iconst (v := -1) hx hb dX2_end_21 (by decide) ?_
    exact pw_piret hx hb hr (rfl) hlocks dX2_end_22 (rfl)
  · have _h := hx_row
    refine lv_aload_n hx hb dX2_end_0 rfl (lv_at hl 0 rfl) ?_
    refine lv_iload_n hx hb dX2_end_1 rfl (lv_at hl 1 rfl) ?_
    -- c_rowOf_n
    refine pw_cVp (As := [.int (row)]) (rest := []) (wc := [(h, .inr (2, [.ref qr, .ref qp, .int (nI md), .int (r0), .int (r1), .int (r2), .int (r3)])), (qr, .inl (cR, 3, .inr (.inr (.inr (.inr (fun i => some (ro i)))))))]) ⟨hx, hb, hml, hown, hts⟩ (c_rowOf_n l D cI cP cR h qr qp md r0 r1 r2 r3 ro row hx_row) (cwV 1 hts gX2_end_X2_rowOf rfl rfl rfl (by decide +kernel) ⟨Nat.le_of_ble_eq_true rfl, Nat.le_of_ble_eq_true rfl⟩) hK hP hD [0, 1] rfl (by decide) 0 rfl rfl rfl rfl hl.1 rfl (Nat.le_of_ble_eq_true rfl) dX2_end_2 ⟨Nat.zero_le _, Nat.zero_le _⟩ ?_
    refine lv_astoreN (lv' := [(4, .null), (0, .ref h), (1, .int (row)), (2, .int (la)), (3, .int (way))]) hx hb dX2_end_5 hl (by decide) rfl (fun ls hl => ?_)
    refine lv_aloadN hx hb dX2_end_7 (lv_at hl 0 rfl) ?_
    refine lv_ifnullN (tgt := 21) hx hb dX2_end_9 (by decide) ?_
    refine lv_iconst (v := -1) hx hb dX2_end_21 (by decide) ?_
    exact pw_piret hx hb hr (rfl) hlocks dX2_end_22 (rfl)
theorem hi_X2_end_1 : ∀ w ∈ u_ws RX1 TX1 3, w ∈ wsX2_end := by decide +kernel
set_option maxHeartbeats 4000000 in
set_option maxRecDepth 100000 in
theorem k_end_e (l : Launch) (D : va_G) (cI cP cR : ClassId) (h qr qp md : Nat) (r0 r1 r2 r3 : Int32) (ro : Nat → Nat) (i a n : Nat) (ch : Int32) (f : Nat → Int32) (hi : i < 3) (hn : n ≤ 60) (la way : Int32) (hw : (0 ≤ way ∧ way ≤ (if la = 0 then nI 3 else nI 1))) (hz : n = 0) (he : way - way / nI 2 * nI 2 = 0) : pw_Mm l yX2_end wsX2_end ({ frames := 2, cells := 0, slots := 0, locals := 42 } : Room) D cI cP cR [.ref h, .int (nI i), .int (la), .int (way)] ([(h, .inr (2, [.ref qr, .ref qp, .int (nI md), .int (r0), .int (r1), .int (r2), .int (r3)])), (qr, .inl (cR, 3, .inr (.inr (.inr (.inr (fun i => some (ro i))))))), (ro i, .inr (1, [.ref a, .int (nI n), .int (ch)])), (a, .inl (cI, 60, .inl (f)))]) (fun v w => v = some (.int (-6)) ∧ w = [(h, .inr (2, [.ref qr, .ref qp, .int (nI md), .int (r0 + nI 1), .int (r1), .int (r2), .int (r3)])), (qr, .inl (cR, 3, .inr (.inr (.inr (.inr (fun i => some (ro i))))))), (ro i, .inr (1, [.ref a, .int (nI n), .int (ch)])), (a, .inl (cI, 60, .inl (f)))]) := by
  refine pw_ofm (cc := cX2_end) (maxL := 5) (ret := (some .int)) (own := RX2) (by decide +kernel) rfl rfl (Nat.le_of_ble_eq_true rfl) ?_
  intro p_ e_ s m bel meth cd A hE hK hP hD hA hS ls hl
  obtain ⟨hx, hb, hr, hml, hown, hts, hlocks⟩ := hE
  have hNW := hK.2
  have hl : lv_has ls 5 [(0, .ref h), (1, .int (nI i)), (2, .int (la)), (3, .int (way))] := hl
  refine lv_aload_n hx hb dX2_end_0 rfl (lv_at hl 0 rfl) ?_
  refine lv_iload_n hx hb dX2_end_1 rfl (lv_at hl 1 rfl) ?_
  -- c_rowOf_i
  refine pw_cVp (As := [.int (nI i)]) (rest := []) (wc := [(h, .inr (2, [.ref qr, .ref qp, .int (nI md), .int (r0), .int (r1), .int (r2), .int (r3)])), (qr, .inl (cR, 3, .inr (.inr (.inr (.inr (fun i => some (ro i)))))))]) ⟨hx, hb, hml, hown, hts⟩ (c_rowOf_i l D cI cP cR h qr qp md r0 r1 r2 r3 ro i (by omega)) (cwV 1 hts gX2_end_X2_rowOf rfl rfl rfl (by decide +kernel) ⟨Nat.le_of_ble_eq_true rfl, Nat.le_of_ble_eq_true rfl⟩) hK hP hD [0, 1] rfl (by decide) 0 rfl rfl rfl rfl hl.1 rfl (Nat.le_of_ble_eq_true rfl) dX2_end_2 ⟨Nat.zero_le _, Nat.zero_le _⟩ ?_
  refine lv_astore (lv' := [(4, .ref (ro i)), (0, .ref h), (1, .int (nI i)), (2, .int (la)), (3, .int (way))]) hx hb dX2_end_5 hl (by decide) rfl (fun ls hl => ?_)
  refine lv_aload hx hb dX2_end_7 (lv_at hl 0 rfl) ?_
  refine lv_ifnull hx hb dX2_end_9 ?_
  refine lv_iload_n hx hb dX2_end_12 rfl (lv_at hl 4 rfl) ?_
  refine lv_iconst (v := nI 3) hx hb dX2_end_13 (by decide) ?_
  refine lv_iload_n hx hb dX2_end_14 rfl (lv_at hl 3 rfl) ?_
  -- c_isEndWay_t
  refine pw_cSp (As := [.int (way), .int (nI 3), .int (la)]) (rest := []) ⟨hx, hb, hml, hown, hts⟩ (c_isEndWay_t l D cI cP cR way (nI 3) la hw) (va_cwS 3 hts gX2_end_X2_isEndWay rfl rfl rfl (by decide +kernel) ⟨Nat.le_of_ble_eq_true rfl, Nat.le_of_ble_eq_true rfl⟩) hK rfl hl.1 rfl (Nat.le_of_ble_eq_true rfl) dX2_end_15 ⟨Nat.zero_le _, Nat.zero_le _⟩ ?_
  refine lv_if_ne (tgt := 23) hx hb dX2_end_18 (by decide) (fun c => ?_) (fun c => absurd c (by decide))
  refine lv_aload hx hb dX2_end_23 (lv_at hl 0 rfl) ?_
  refine va_getN (D := D) (ci := 1) (v := .int (nI n)) (C := RX1) (T := TX1) (N := 3) hx hb hts hi_X2_end_1 hown hK.1 hP 2 rfl rfl 1 (by decide) (va_Nw.use rfl hNW.1) (fun _ h9 => h9) rfl dX2_end_25 ?_
  refine pw_if_ne (tgt := 37) hx hb (by omega) dX2_end_28 (by decide) (fun c_1 => ?_) (fun c_1 => ?_)
  · exact absurd hz c_1
  · have _h := c_1
    refine lv_aload_n hx hb dX2_end_31 rfl (lv_at hl 1 rfl) ?_
    refine lv_iload_n hx hb dX2_end_32 rfl (lv_at hl 4 rfl) ?_
    -- c_noEnd_e
    refine pw_cVm (As := [.int (way)]) (rest := []) (wc := [(h, .inr (2, [.ref qr, .ref qp, .int (nI md), .int (r0), .int (r1), .int (r2), .int (r3)]))]) (wr := [(qr, .inl (cR, 3, .inr (.inr (.inr (.inr (fun i => some (ro i))))))), (ro i, .inr (1, [.ref a, .int (nI n), .int (ch)])), (a, .inl (cI, 60, .inl (f)))]) ⟨hx, hb, hml, hown, hts⟩ (c_noEnd_e l D cI cP cR h qr qp md r0 r1 r2 r3 way he) (cwV 1 hts gX2_end_X2_noEnd rfl rfl rfl (by decide +kernel) ⟨Nat.le_of_ble_eq_true rfl, Nat.le_of_ble_eq_true rfl⟩) hK hP hD hS hA [0] [1, 2, 3] rfl rfl (by decide) (by decide) (by decide) 0 rfl rfl rfl rfl hl.1 rfl (Nat.le_of_ble_eq_true rfl) dX2_end_33 ⟨Nat.zero_le _, Nat.zero_le _⟩ (fun v1 w1 H locs hq hP hD hS => ?_)
    rcases hq with ⟨rfl, rfl⟩
    have hP : va_P D vwCl ([(qr, .inl (cR, 3, .inr (.inr (.inr (.inr (fun i => some (ro i))))))), (ro i, .inr (1, [.ref a, .int (nI n), .int (ch)])), (a, .inl (cI, 60, .inl (f))), (h, .inr (2, [.ref qr, .ref qp, .int (nI md), .int (r0 + nI 1), .int (r1), .int (r2), .int (r3)]))]) H := hP
    have hD : va_D A ([(qr, .inl (cR, 3, .inr (.inr (.inr (.inr (fun i => some (ro i))))))), (ro i, .inr (1, [.ref a, .int (nI n), .int (ch)])), (a, .inl (cI, 60, .inl (f))), (h, .inr (2, [.ref qr, .ref qp, .int (nI md), .int (r0 + nI 1), .int (r1), .int (r2), .int (r3)]))]) := hD
    refine W.eq (g2 := F0 m 36 ls [.int (-6)]) rfl ?_
    have hP := hP.sub (ws' := [(h, .inr (2, [.ref qr, .ref qp, .int (nI md), .int (r0 + nI 1), .int (r1), .int (r2), .int (r3)])), (qr, .inl (cR, 3, .inr (.inr (.inr (.inr (fun i => some (ro i))))))), (ro i, .inr (1, [.ref a, .int (nI n), .int (ch)])), (a, .inl (cI, 60, .inl (f)))]) [3, 0, 1, 2] rfl
    have hD := hD.sub (ws' := [(h, .inr (2, [.ref qr, .ref qp, .int (nI md), .int (r0 + nI 1), .int (r1), .int (r2), .int (r3)])), (qr, .inl (cR, 3, .inr (.inr (.inr (.inr (fun i => some (ro i))))))), (ro i, .inr (1, [.ref a, .int (nI n), .int (ch)])), (a, .inl (cI, 60, .inl (f)))]) [3, 0, 1, 2] (by decide) rfl
    exact pw_iret hx hb hr (rfl) hlocks dX2_end_36 hS hP hD (⟨rfl, rfl⟩)
set_option maxHeartbeats 4000000 in
set_option maxRecDepth 100000 in
theorem k_end_o (l : Launch) (D : va_G) (cI cP cR : ClassId) (h qr qp md : Nat) (r0 r1 r2 r3 : Int32) (ro : Nat → Nat) (i a n : Nat) (ch : Int32) (f : Nat → Int32) (hi : i < 3) (hn : n ≤ 60) (la way : Int32) (hw : (0 ≤ way ∧ way ≤ (if la = 0 then nI 3 else nI 1))) (hz : n = 0) (he : ¬ way - way / nI 2 * nI 2 = 0) : pw_Mp l yX2_end wsX2_end ({ frames := 2, cells := 0, slots := 0, locals := 42 } : Room) D cI cP cR [.ref h, .int (nI i), .int (la), .int (way)] ([(h, .inr (2, [.ref qr, .ref qp, .int (nI md), .int (r0), .int (r1), .int (r2), .int (r3)])), (qr, .inl (cR, 3, .inr (.inr (.inr (.inr (fun i => some (ro i))))))), (ro i, .inr (1, [.ref a, .int (nI n), .int (ch)])), (a, .inl (cI, 60, .inl (f)))]) (.int (-6)) := by
  refine pw_ofp (cc := cX2_end) (maxL := 5) (ret := (some .int)) (own := RX2) (by decide +kernel) rfl rfl (Nat.le_of_ble_eq_true rfl) ?_
  intro p_ e_ s m bel meth cd hE hK hP hD ls hl
  obtain ⟨hx, hb, hr, hml, hown, hts, hlocks⟩ := hE
  have hNW := hK.2
  have hl : lv_has ls 5 [(0, .ref h), (1, .int (nI i)), (2, .int (la)), (3, .int (way))] := hl
  refine lv_aload_n hx hb dX2_end_0 rfl (lv_at hl 0 rfl) ?_
  refine lv_iload_n hx hb dX2_end_1 rfl (lv_at hl 1 rfl) ?_
  -- c_rowOf_i
  refine pw_cVp (As := [.int (nI i)]) (rest := []) (wc := [(h, .inr (2, [.ref qr, .ref qp, .int (nI md), .int (r0), .int (r1), .int (r2), .int (r3)])), (qr, .inl (cR, 3, .inr (.inr (.inr (.inr (fun i => some (ro i)))))))]) ⟨hx, hb, hml, hown, hts⟩ (c_rowOf_i l D cI cP cR h qr qp md r0 r1 r2 r3 ro i (by omega)) (cwV 1 hts gX2_end_X2_rowOf rfl rfl rfl (by decide +kernel) ⟨Nat.le_of_ble_eq_true rfl, Nat.le_of_ble_eq_true rfl⟩) hK hP hD [0, 1] rfl (by decide) 0 rfl rfl rfl rfl hl.1 rfl (Nat.le_of_ble_eq_true rfl) dX2_end_2 ⟨Nat.zero_le _, Nat.zero_le _⟩ ?_
  refine lv_astore (lv' := [(4, .ref (ro i)), (0, .ref h), (1, .int (nI i)), (2, .int (la)), (3, .int (way))]) hx hb dX2_end_5 hl (by decide) rfl (fun ls hl => ?_)
  refine lv_aload hx hb dX2_end_7 (lv_at hl 0 rfl) ?_
  refine lv_ifnull hx hb dX2_end_9 ?_
  refine lv_iload_n hx hb dX2_end_12 rfl (lv_at hl 4 rfl) ?_
  refine lv_iconst (v := nI 3) hx hb dX2_end_13 (by decide) ?_
  refine lv_iload_n hx hb dX2_end_14 rfl (lv_at hl 3 rfl) ?_
  -- c_isEndWay_t
  refine pw_cSp (As := [.int (way), .int (nI 3), .int (la)]) (rest := []) ⟨hx, hb, hml, hown, hts⟩ (c_isEndWay_t l D cI cP cR way (nI 3) la hw) (va_cwS 3 hts gX2_end_X2_isEndWay rfl rfl rfl (by decide +kernel) ⟨Nat.le_of_ble_eq_true rfl, Nat.le_of_ble_eq_true rfl⟩) hK rfl hl.1 rfl (Nat.le_of_ble_eq_true rfl) dX2_end_15 ⟨Nat.zero_le _, Nat.zero_le _⟩ ?_
  refine lv_if_ne (tgt := 23) hx hb dX2_end_18 (by decide) (fun c => ?_) (fun c => absurd c (by decide))
  refine lv_aload hx hb dX2_end_23 (lv_at hl 0 rfl) ?_
  refine va_getN (D := D) (ci := 1) (v := .int (nI n)) (C := RX1) (T := TX1) (N := 3) hx hb hts hi_X2_end_1 hown hK.1 hP 2 rfl rfl 1 (by decide) (va_Nw.use rfl hNW.1) (fun _ h9 => h9) rfl dX2_end_25 ?_
  refine pw_if_ne (tgt := 37) hx hb (by omega) dX2_end_28 (by decide) (fun c_1 => ?_) (fun c_1 => ?_)
  · exact absurd hz c_1
  · have _h := c_1
    refine lv_aload_n hx hb dX2_end_31 rfl (lv_at hl 1 rfl) ?_
    refine lv_iload_n hx hb dX2_end_32 rfl (lv_at hl 4 rfl) ?_
    -- c_noEnd_o
    refine pw_cVp (As := [.int (way)]) (rest := []) (wc := [(h, .inr (2, [.ref qr, .ref qp, .int (nI md), .int (r0), .int (r1), .int (r2), .int (r3)]))]) ⟨hx, hb, hml, hown, hts⟩ (c_noEnd_o l D cI cP cR h qr qp md r0 r1 r2 r3 way he) (cwV 1 hts gX2_end_X2_noEnd rfl rfl rfl (by decide +kernel) ⟨Nat.le_of_ble_eq_true rfl, Nat.le_of_ble_eq_true rfl⟩) hK hP hD [0] rfl (by decide) 0 rfl rfl rfl rfl hl.1 rfl (Nat.le_of_ble_eq_true rfl) dX2_end_33 ⟨Nat.zero_le _, Nat.zero_le _⟩ ?_
    exact pw_piret hx hb hr (rfl) hlocks dX2_end_36 (rfl)
set_option maxHeartbeats 4000000 in
set_option maxRecDepth 100000 in
theorem k_end (l : Launch) (D : va_G) (cI cP cR : ClassId) (h qr qp md : Nat) (r0 r1 r2 r3 : Int32) (ro : Nat → Nat) (i a n : Nat) (ch : Int32) (f : Nat → Int32) (hi : i < 3) (hn : n ≤ 60) (la way : Int32) (hw : (0 ≤ way ∧ way ≤ (if la = 0 then nI 3 else nI 1))) (hz : ¬ n = 0) : pw_Mp l yX2_end wsX2_end ({ frames := 2, cells := 0, slots := 0, locals := 42 } : Room) D cI cP cR [.ref h, .int (nI i), .int (la), .int (way)] ([(h, .inr (2, [.ref qr, .ref qp, .int (nI md), .int (r0), .int (r1), .int (r2), .int (r3)])), (qr, .inl (cR, 3, .inr (.inr (.inr (.inr (fun i => some (ro i))))))), (ro i, .inr (1, [.ref a, .int (nI n), .int (ch)])), (a, .inl (cI, 60, .inl (f)))]) (.int (f (plF la (n - 1)))) := by
  refine pw_ofp (cc := cX2_end) (maxL := 5) (ret := (some .int)) (own := RX2) (by decide +kernel) rfl rfl (Nat.le_of_ble_eq_true rfl) ?_
  intro p_ e_ s m bel meth cd hE hK hP hD ls hl
  obtain ⟨hx, hb, hr, hml, hown, hts, hlocks⟩ := hE
  have hNW := hK.2
  have hl : lv_has ls 5 [(0, .ref h), (1, .int (nI i)), (2, .int (la)), (3, .int (way))] := hl
  refine lv_aload_n hx hb dX2_end_0 rfl (lv_at hl 0 rfl) ?_
  refine lv_iload_n hx hb dX2_end_1 rfl (lv_at hl 1 rfl) ?_
  -- c_rowOf_i
  refine pw_cVp (As := [.int (nI i)]) (rest := []) (wc := [(h, .inr (2, [.ref qr, .ref qp, .int (nI md), .int (r0), .int (r1), .int (r2), .int (r3)])), (qr, .inl (cR, 3, .inr (.inr (.inr (.inr (fun i => some (ro i)))))))]) ⟨hx, hb, hml, hown, hts⟩ (c_rowOf_i l D cI cP cR h qr qp md r0 r1 r2 r3 ro i (by omega)) (cwV 1 hts gX2_end_X2_rowOf rfl rfl rfl (by decide +kernel) ⟨Nat.le_of_ble_eq_true rfl, Nat.le_of_ble_eq_true rfl⟩) hK hP hD [0, 1] rfl (by decide) 0 rfl rfl rfl rfl hl.1 rfl (Nat.le_of_ble_eq_true rfl) dX2_end_2 ⟨Nat.zero_le _, Nat.zero_le _⟩ ?_
  refine lv_astore (lv' := [(4, .ref (ro i)), (0, .ref h), (1, .int (nI i)), (2, .int (la)), (3, .int (way))]) hx hb dX2_end_5 hl (by decide) rfl (fun ls hl => ?_)
  refine lv_aload hx hb dX2_end_7 (lv_at hl 0 rfl) ?_
  refine lv_ifnull hx hb dX2_end_9 ?_
  refine lv_iload_n hx hb dX2_end_12 rfl (lv_at hl 4 rfl) ?_
  refine lv_iconst (v := nI 3) hx hb dX2_end_13 (by decide) ?_
  refine lv_iload_n hx hb dX2_end_14 rfl (lv_at hl 3 rfl) ?_
  -- c_isEndWay_t
  refine pw_cSp (As := [.int (way), .int (nI 3), .int (la)]) (rest := []) ⟨hx, hb, hml, hown, hts⟩ (c_isEndWay_t l D cI cP cR way (nI 3) la hw) (va_cwS 3 hts gX2_end_X2_isEndWay rfl rfl rfl (by decide +kernel) ⟨Nat.le_of_ble_eq_true rfl, Nat.le_of_ble_eq_true rfl⟩) hK rfl hl.1 rfl (Nat.le_of_ble_eq_true rfl) dX2_end_15 ⟨Nat.zero_le _, Nat.zero_le _⟩ ?_
  refine lv_if_ne (tgt := 23) hx hb dX2_end_18 (by decide) (fun c => ?_) (fun c => absurd c (by decide))
  refine lv_aload hx hb dX2_end_23 (lv_at hl 0 rfl) ?_
  refine va_getN (D := D) (ci := 1) (v := .int (nI n)) (C := RX1) (T := TX1) (N := 3) hx hb hts hi_X2_end_1 hown hK.1 hP 2 rfl rfl 1 (by decide) (va_Nw.use rfl hNW.1) (fun _ h9 => h9) rfl dX2_end_25 ?_
  refine pw_if_ne (tgt := 37) hx hb (by omega) dX2_end_28 (by decide) (fun c_1 => ?_) (fun c_1 => ?_)
  · have _h := c_1
    refine lv_aload hx hb dX2_end_37 (lv_at hl 0 rfl) ?_
    refine lv_iload_n hx hb dX2_end_39 rfl (lv_at hl 3 rfl) ?_
    refine lv_if_eq (tgt := 53) hx hb dX2_end_40 (by decide) (fun c_2 => ?_) (fun c_2 => ?_)
    · have _h := c_2
      refine lv_iconst (v := nI 0) hx hb dX2_end_53 (by decide) ?_
      -- c_thingAt
      refine pw_cVp (As := [.int (nI 0)]) (rest := []) (wc := [(ro i, .inr (1, [.ref a, .int (nI n), .int (ch)])), (a, .inl (cI, 60, .inl (f)))]) ⟨hx, hb, hml, hown, hts⟩ (c_thingAt l D cI cP cR (ro i) a n ch f 0 (by omega)) (cwV 1 hts gX2_end_X1_thingAt rfl rfl rfl (by decide +kernel) ⟨Nat.le_of_ble_eq_true rfl, Nat.le_of_ble_eq_true rfl⟩) hK hP hD [2, 3] rfl (by decide) 0 rfl rfl rfl rfl hl.1 rfl (Nat.le_of_ble_eq_true rfl) dX2_end_54 ⟨Nat.zero_le _, Nat.zero_le _⟩ ?_
      exact pw_piret hx hb hr (rfl) hlocks dX2_end_57 (by unfold plF; rw [if_pos c_2])
    · have _h := c_2
      refine lv_aload hx hb dX2_end_43 (lv_at hl 0 rfl) ?_
      refine va_getN (D := D) (ci := 1) (v := .int (nI n)) (C := RX1) (T := TX1) (N := 3) hx hb hts hi_X2_end_1 hown hK.1 hP 2 rfl rfl 1 (by decide) (va_Nw.use rfl hNW.1) (fun _ h9 => h9) rfl dX2_end_45 ?_
      refine lv_iconst (v := nI 1) hx hb dX2_end_48 (by decide) ?_
      refine pw_isub hx hb (by omega) dX2_end_49 ?_
      refine lv_goto (tgt := 54) hx hb dX2_end_50 (by decide) ?_
      -- c_thingAt
      refine pw_cVp (As := [.int (nI (n - 1))]) (rest := []) (wc := [(ro i, .inr (1, [.ref a, .int (nI n), .int (ch)])), (a, .inl (cI, 60, .inl (f)))]) ⟨hx, hb, hml, hown, hts⟩ (c_thingAt l D cI cP cR (ro i) a n ch f (n - 1) (by omega)) (cwV 1 hts gX2_end_X1_thingAt rfl rfl rfl (by decide +kernel) ⟨Nat.le_of_ble_eq_true rfl, Nat.le_of_ble_eq_true rfl⟩) hK hP hD [2, 3] rfl (by decide) 0 rfl rfl rfl rfl hl.1 rfl (Nat.le_of_ble_eq_true rfl) dX2_end_54 ⟨Nat.zero_le _, Nat.zero_le _⟩ ?_
      exact pw_piret hx hb hr (rfl) hlocks dX2_end_57 (by unfold plF; rw [if_neg c_2])
  · exact absurd c_1 hz
set_option maxHeartbeats 4000000 in
set_option maxRecDepth 100000 in
theorem k_take_x (l : Launch) (D : va_G) (cI cP cR : ClassId) (h qr qp md : Nat) (r0 r1 r2 r3 : Int32) (ro : Nat → Nat) (row la way : Int32) (hbad : ¬ ((0 ≤ row ∧ row < nI 3) ∧ (0 ≤ way ∧ way ≤ (if la = 0 then nI 4 else nI 1)))) : pw_Mp l yX2_take wsX2_take ({ frames := 2, cells := 0, slots := 0, locals := 44 } : Room) D cI cP cR [.ref h, .int (row), .int (la), .int (way)] ([(h, .inr (2, [.ref qr, .ref qp, .int (nI md), .int (r0), .int (r1), .int (r2), .int (r3)])), (qr, .inl (cR, 3, .inr (.inr (.inr (.inr (fun i => some (ro i)))))))]) (.int (-1)) := by
  refine pw_ofp (cc := cX2_take) (maxL := 5) (ret := (some .int)) (own := RX2) (by decide +kernel) rfl rfl (Nat.le_of_ble_eq_true rfl) ?_
  intro p_ e_ s m bel meth cd hE hK hP hD ls hl
  obtain ⟨hx, hb, hr, hml, hown, hts, hlocks⟩ := hE
  have hNW := hK.2
  have hl : lv_has ls 5 [(0, .ref h), (1, .int (row)), (2, .int (la)), (3, .int (way))] := hl
  by_cases hx_row : 0 ≤ row ∧ row < nI 3
  · obtain ⟨rj_1, hrj_1, rfl⟩ := pw_inP (by decide) hx_row
    refine lv_aload_n hx hb dX2_take_0 rfl (lv_at hl 0 rfl) ?_
    refine lv_iload_n hx hb dX2_take_1 rfl (lv_at hl 1 rfl) ?_
    -- c_rowOf_i
    refine pw_cVp (As := [.int (nI rj_1)]) (rest := []) (wc := [(h, .inr (2, [.ref qr, .ref qp, .int (nI md), .int (r0), .int (r1), .int (r2), .int (r3)])), (qr, .inl (cR, 3, .inr (.inr (.inr (.inr (fun i => some (ro i)))))))]) ⟨hx, hb, hml, hown, hts⟩ (c_rowOf_i l D cI cP cR h qr qp md r0 r1 r2 r3 ro rj_1 (by omega)) (cwV 1 hts gX2_take_X2_rowOf rfl rfl rfl (by decide +kernel) ⟨Nat.le_of_ble_eq_true rfl, Nat.le_of_ble_eq_true rfl⟩) hK hP hD [0, 1] rfl (by decide) 0 rfl rfl rfl rfl hl.1 rfl (Nat.le_of_ble_eq_true rfl) dX2_take_2 ⟨Nat.zero_le _, Nat.zero_le _⟩ ?_
    refine lv_astore (lv' := [(4, .ref (ro rj_1)), (0, .ref h), (1, .int (nI rj_1)), (2, .int (la)), (3, .int (way))]) hx hb dX2_take_5 hl (by decide) rfl (fun ls hl => ?_)
    refine lv_aload hx hb dX2_take_7 (lv_at hl 0 rfl) ?_
    refine lv_ifnull hx hb dX2_take_9 ?_
    refine lv_iload_n hx hb dX2_take_12 rfl (lv_at hl 4 rfl) ?_
    refine lv_iconst (v := nI 4) hx hb dX2_take_13 (by decide) ?_
    refine lv_iload_n hx hb dX2_take_14 rfl (lv_at hl 3 rfl) ?_
    -- c_isEndWay_f
    refine pw_cSp (As := [.int (way), .int (nI 4), .int (la)]) (rest := []) ⟨hx, hb, hml, hown, hts⟩ (c_isEndWay_f l D cI cP cR way (nI 4) la (fun h => hbad ⟨hx_row, h⟩)) (va_cwS 3 hts gX2_take_X2_isEndWay rfl rfl rfl (by decide +kernel) ⟨Nat.le_of_ble_eq_true rfl, Nat.le_of_ble_eq_true rfl⟩) hK rfl hl.1 rfl (Nat.le_of_ble_eq_true rfl) dX2_take_15 ⟨Nat.zero_le _, Nat.zero_le _⟩ ?_
    refine lv_if_ne (tgt := 23) hx hb dX2_take_18 (by decide) (fun c => absurd c (by decide)) (fun c => ?_)
    refine lv_iconst (v := -1) hx hb dX2_take_21 (by decide) ?_
    exact pw_piret hx hb hr (rfl) hlocks dX2_take_22 (rfl)
  · have _h := hx_row
    refine lv_aload_n hx hb dX2_take_0 rfl (lv_at hl 0 rfl) ?_
    refine lv_iload_n hx hb dX2_take_1 rfl (lv_at hl 1 rfl) ?_
    -- c_rowOf_n
    refine pw_cVp (As := [.int (row)]) (rest := []) (wc := [(h, .inr (2, [.ref qr, .ref qp, .int (nI md), .int (r0), .int (r1), .int (r2), .int (r3)])), (qr, .inl (cR, 3, .inr (.inr (.inr (.inr (fun i => some (ro i)))))))]) ⟨hx, hb, hml, hown, hts⟩ (c_rowOf_n l D cI cP cR h qr qp md r0 r1 r2 r3 ro row hx_row) (cwV 1 hts gX2_take_X2_rowOf rfl rfl rfl (by decide +kernel) ⟨Nat.le_of_ble_eq_true rfl, Nat.le_of_ble_eq_true rfl⟩) hK hP hD [0, 1] rfl (by decide) 0 rfl rfl rfl rfl hl.1 rfl (Nat.le_of_ble_eq_true rfl) dX2_take_2 ⟨Nat.zero_le _, Nat.zero_le _⟩ ?_
    refine lv_astoreN (lv' := [(4, .null), (0, .ref h), (1, .int (row)), (2, .int (la)), (3, .int (way))]) hx hb dX2_take_5 hl (by decide) rfl (fun ls hl => ?_)
    refine lv_aloadN hx hb dX2_take_7 (lv_at hl 0 rfl) ?_
    refine lv_ifnullN (tgt := 21) hx hb dX2_take_9 (by decide) ?_
    refine lv_iconst (v := -1) hx hb dX2_take_21 (by decide) ?_
    exact pw_piret hx hb hr (rfl) hlocks dX2_take_22 (rfl)
theorem hi_X2_take_1 : ∀ w ∈ u_ws RX1 TX1 3, w ∈ wsX2_take := by decide +kernel
set_option maxHeartbeats 4000000 in
set_option maxRecDepth 100000 in
theorem k_take_e (l : Launch) (D : va_G) (cI cP cR : ClassId) (h qr qp md : Nat) (r0 r1 r2 r3 : Int32) (ro : Nat → Nat) (i a n : Nat) (ch : Int32) (f : Nat → Int32) (hi : i < 3) (hn : n ≤ 60) (la way : Int32) (hw : (0 ≤ way ∧ way ≤ (if la = 0 then nI 4 else nI 1))) (hz : n = 0) (he : way - way / nI 2 * nI 2 = 0) : pw_Mm l yX2_take wsX2_take ({ frames := 2, cells := 0, slots := 0, locals := 44 } : Room) D cI cP cR [.ref h, .int (nI i), .int (la), .int (way)] ([(h, .inr (2, [.ref qr, .ref qp, .int (nI md), .int (r0), .int (r1), .int (r2), .int (r3)])), (qr, .inl (cR, 3, .inr (.inr (.inr (.inr (fun i => some (ro i))))))), (ro i, .inr (1, [.ref a, .int (nI n), .int (ch)])), (a, .inl (cI, 60, .inl (f)))]) (fun v w => v = some (.int (-6)) ∧ w = [(h, .inr (2, [.ref qr, .ref qp, .int (nI md), .int (r0 + nI 1), .int (r1), .int (r2), .int (r3)])), (qr, .inl (cR, 3, .inr (.inr (.inr (.inr (fun i => some (ro i))))))), (ro i, .inr (1, [.ref a, .int (nI n), .int (ch)])), (a, .inl (cI, 60, .inl (f)))]) := by
  refine pw_ofm (cc := cX2_take) (maxL := 5) (ret := (some .int)) (own := RX2) (by decide +kernel) rfl rfl (Nat.le_of_ble_eq_true rfl) ?_
  intro p_ e_ s m bel meth cd A hE hK hP hD hA hS ls hl
  obtain ⟨hx, hb, hr, hml, hown, hts, hlocks⟩ := hE
  have hNW := hK.2
  have hl : lv_has ls 5 [(0, .ref h), (1, .int (nI i)), (2, .int (la)), (3, .int (way))] := hl
  refine lv_aload_n hx hb dX2_take_0 rfl (lv_at hl 0 rfl) ?_
  refine lv_iload_n hx hb dX2_take_1 rfl (lv_at hl 1 rfl) ?_
  -- c_rowOf_i
  refine pw_cVp (As := [.int (nI i)]) (rest := []) (wc := [(h, .inr (2, [.ref qr, .ref qp, .int (nI md), .int (r0), .int (r1), .int (r2), .int (r3)])), (qr, .inl (cR, 3, .inr (.inr (.inr (.inr (fun i => some (ro i)))))))]) ⟨hx, hb, hml, hown, hts⟩ (c_rowOf_i l D cI cP cR h qr qp md r0 r1 r2 r3 ro i (by omega)) (cwV 1 hts gX2_take_X2_rowOf rfl rfl rfl (by decide +kernel) ⟨Nat.le_of_ble_eq_true rfl, Nat.le_of_ble_eq_true rfl⟩) hK hP hD [0, 1] rfl (by decide) 0 rfl rfl rfl rfl hl.1 rfl (Nat.le_of_ble_eq_true rfl) dX2_take_2 ⟨Nat.zero_le _, Nat.zero_le _⟩ ?_
  refine lv_astore (lv' := [(4, .ref (ro i)), (0, .ref h), (1, .int (nI i)), (2, .int (la)), (3, .int (way))]) hx hb dX2_take_5 hl (by decide) rfl (fun ls hl => ?_)
  refine lv_aload hx hb dX2_take_7 (lv_at hl 0 rfl) ?_
  refine lv_ifnull hx hb dX2_take_9 ?_
  refine lv_iload_n hx hb dX2_take_12 rfl (lv_at hl 4 rfl) ?_
  refine lv_iconst (v := nI 4) hx hb dX2_take_13 (by decide) ?_
  refine lv_iload_n hx hb dX2_take_14 rfl (lv_at hl 3 rfl) ?_
  -- c_isEndWay_t
  refine pw_cSp (As := [.int (way), .int (nI 4), .int (la)]) (rest := []) ⟨hx, hb, hml, hown, hts⟩ (c_isEndWay_t l D cI cP cR way (nI 4) la hw) (va_cwS 3 hts gX2_take_X2_isEndWay rfl rfl rfl (by decide +kernel) ⟨Nat.le_of_ble_eq_true rfl, Nat.le_of_ble_eq_true rfl⟩) hK rfl hl.1 rfl (Nat.le_of_ble_eq_true rfl) dX2_take_15 ⟨Nat.zero_le _, Nat.zero_le _⟩ ?_
  refine lv_if_ne (tgt := 23) hx hb dX2_take_18 (by decide) (fun c => ?_) (fun c => absurd c (by decide))
  refine lv_aload hx hb dX2_take_23 (lv_at hl 0 rfl) ?_
  refine va_getN (D := D) (ci := 1) (v := .int (nI n)) (C := RX1) (T := TX1) (N := 3) hx hb hts hi_X2_take_1 hown hK.1 hP 2 rfl rfl 1 (by decide) (va_Nw.use rfl hNW.1) (fun _ h9 => h9) rfl dX2_take_25 ?_
  refine pw_if_ne (tgt := 37) hx hb (by omega) dX2_take_28 (by decide) (fun c_1 => ?_) (fun c_1 => ?_)
  · exact absurd hz c_1
  · have _h := c_1
    refine lv_aload_n hx hb dX2_take_31 rfl (lv_at hl 1 rfl) ?_
    refine lv_iload_n hx hb dX2_take_32 rfl (lv_at hl 4 rfl) ?_
    -- c_noEnd_e
    refine pw_cVm (As := [.int (way)]) (rest := []) (wc := [(h, .inr (2, [.ref qr, .ref qp, .int (nI md), .int (r0), .int (r1), .int (r2), .int (r3)]))]) (wr := [(qr, .inl (cR, 3, .inr (.inr (.inr (.inr (fun i => some (ro i))))))), (ro i, .inr (1, [.ref a, .int (nI n), .int (ch)])), (a, .inl (cI, 60, .inl (f)))]) ⟨hx, hb, hml, hown, hts⟩ (c_noEnd_e l D cI cP cR h qr qp md r0 r1 r2 r3 way he) (cwV 1 hts gX2_take_X2_noEnd rfl rfl rfl (by decide +kernel) ⟨Nat.le_of_ble_eq_true rfl, Nat.le_of_ble_eq_true rfl⟩) hK hP hD hS hA [0] [1, 2, 3] rfl rfl (by decide) (by decide) (by decide) 0 rfl rfl rfl rfl hl.1 rfl (Nat.le_of_ble_eq_true rfl) dX2_take_33 ⟨Nat.zero_le _, Nat.zero_le _⟩ (fun v1 w1 H locs hq hP hD hS => ?_)
    rcases hq with ⟨rfl, rfl⟩
    have hP : va_P D vwCl ([(qr, .inl (cR, 3, .inr (.inr (.inr (.inr (fun i => some (ro i))))))), (ro i, .inr (1, [.ref a, .int (nI n), .int (ch)])), (a, .inl (cI, 60, .inl (f))), (h, .inr (2, [.ref qr, .ref qp, .int (nI md), .int (r0 + nI 1), .int (r1), .int (r2), .int (r3)]))]) H := hP
    have hD : va_D A ([(qr, .inl (cR, 3, .inr (.inr (.inr (.inr (fun i => some (ro i))))))), (ro i, .inr (1, [.ref a, .int (nI n), .int (ch)])), (a, .inl (cI, 60, .inl (f))), (h, .inr (2, [.ref qr, .ref qp, .int (nI md), .int (r0 + nI 1), .int (r1), .int (r2), .int (r3)]))]) := hD
    refine W.eq (g2 := F0 m 36 ls [.int (-6)]) rfl ?_
    have hP := hP.sub (ws' := [(h, .inr (2, [.ref qr, .ref qp, .int (nI md), .int (r0 + nI 1), .int (r1), .int (r2), .int (r3)])), (qr, .inl (cR, 3, .inr (.inr (.inr (.inr (fun i => some (ro i))))))), (ro i, .inr (1, [.ref a, .int (nI n), .int (ch)])), (a, .inl (cI, 60, .inl (f)))]) [3, 0, 1, 2] rfl
    have hD := hD.sub (ws' := [(h, .inr (2, [.ref qr, .ref qp, .int (nI md), .int (r0 + nI 1), .int (r1), .int (r2), .int (r3)])), (qr, .inl (cR, 3, .inr (.inr (.inr (.inr (fun i => some (ro i))))))), (ro i, .inr (1, [.ref a, .int (nI n), .int (ch)])), (a, .inl (cI, 60, .inl (f)))]) [3, 0, 1, 2] (by decide) rfl
    exact pw_iret hx hb hr (rfl) hlocks dX2_take_36 hS hP hD (⟨rfl, rfl⟩)
set_option maxHeartbeats 4000000 in
set_option maxRecDepth 100000 in
theorem k_take_o (l : Launch) (D : va_G) (cI cP cR : ClassId) (h qr qp md : Nat) (r0 r1 r2 r3 : Int32) (ro : Nat → Nat) (i a n : Nat) (ch : Int32) (f : Nat → Int32) (hi : i < 3) (hn : n ≤ 60) (la way : Int32) (hw : (0 ≤ way ∧ way ≤ (if la = 0 then nI 4 else nI 1))) (hz : n = 0) (he : ¬ way - way / nI 2 * nI 2 = 0) : pw_Mp l yX2_take wsX2_take ({ frames := 2, cells := 0, slots := 0, locals := 44 } : Room) D cI cP cR [.ref h, .int (nI i), .int (la), .int (way)] ([(h, .inr (2, [.ref qr, .ref qp, .int (nI md), .int (r0), .int (r1), .int (r2), .int (r3)])), (qr, .inl (cR, 3, .inr (.inr (.inr (.inr (fun i => some (ro i))))))), (ro i, .inr (1, [.ref a, .int (nI n), .int (ch)])), (a, .inl (cI, 60, .inl (f)))]) (.int (-6)) := by
  refine pw_ofp (cc := cX2_take) (maxL := 5) (ret := (some .int)) (own := RX2) (by decide +kernel) rfl rfl (Nat.le_of_ble_eq_true rfl) ?_
  intro p_ e_ s m bel meth cd hE hK hP hD ls hl
  obtain ⟨hx, hb, hr, hml, hown, hts, hlocks⟩ := hE
  have hNW := hK.2
  have hl : lv_has ls 5 [(0, .ref h), (1, .int (nI i)), (2, .int (la)), (3, .int (way))] := hl
  refine lv_aload_n hx hb dX2_take_0 rfl (lv_at hl 0 rfl) ?_
  refine lv_iload_n hx hb dX2_take_1 rfl (lv_at hl 1 rfl) ?_
  -- c_rowOf_i
  refine pw_cVp (As := [.int (nI i)]) (rest := []) (wc := [(h, .inr (2, [.ref qr, .ref qp, .int (nI md), .int (r0), .int (r1), .int (r2), .int (r3)])), (qr, .inl (cR, 3, .inr (.inr (.inr (.inr (fun i => some (ro i)))))))]) ⟨hx, hb, hml, hown, hts⟩ (c_rowOf_i l D cI cP cR h qr qp md r0 r1 r2 r3 ro i (by omega)) (cwV 1 hts gX2_take_X2_rowOf rfl rfl rfl (by decide +kernel) ⟨Nat.le_of_ble_eq_true rfl, Nat.le_of_ble_eq_true rfl⟩) hK hP hD [0, 1] rfl (by decide) 0 rfl rfl rfl rfl hl.1 rfl (Nat.le_of_ble_eq_true rfl) dX2_take_2 ⟨Nat.zero_le _, Nat.zero_le _⟩ ?_
  refine lv_astore (lv' := [(4, .ref (ro i)), (0, .ref h), (1, .int (nI i)), (2, .int (la)), (3, .int (way))]) hx hb dX2_take_5 hl (by decide) rfl (fun ls hl => ?_)
  refine lv_aload hx hb dX2_take_7 (lv_at hl 0 rfl) ?_
  refine lv_ifnull hx hb dX2_take_9 ?_
  refine lv_iload_n hx hb dX2_take_12 rfl (lv_at hl 4 rfl) ?_
  refine lv_iconst (v := nI 4) hx hb dX2_take_13 (by decide) ?_
  refine lv_iload_n hx hb dX2_take_14 rfl (lv_at hl 3 rfl) ?_
  -- c_isEndWay_t
  refine pw_cSp (As := [.int (way), .int (nI 4), .int (la)]) (rest := []) ⟨hx, hb, hml, hown, hts⟩ (c_isEndWay_t l D cI cP cR way (nI 4) la hw) (va_cwS 3 hts gX2_take_X2_isEndWay rfl rfl rfl (by decide +kernel) ⟨Nat.le_of_ble_eq_true rfl, Nat.le_of_ble_eq_true rfl⟩) hK rfl hl.1 rfl (Nat.le_of_ble_eq_true rfl) dX2_take_15 ⟨Nat.zero_le _, Nat.zero_le _⟩ ?_
  refine lv_if_ne (tgt := 23) hx hb dX2_take_18 (by decide) (fun c => ?_) (fun c => absurd c (by decide))
  refine lv_aload hx hb dX2_take_23 (lv_at hl 0 rfl) ?_
  refine va_getN (D := D) (ci := 1) (v := .int (nI n)) (C := RX1) (T := TX1) (N := 3) hx hb hts hi_X2_take_1 hown hK.1 hP 2 rfl rfl 1 (by decide) (va_Nw.use rfl hNW.1) (fun _ h9 => h9) rfl dX2_take_25 ?_
  refine pw_if_ne (tgt := 37) hx hb (by omega) dX2_take_28 (by decide) (fun c_1 => ?_) (fun c_1 => ?_)
  · exact absurd hz c_1
  · have _h := c_1
    refine lv_aload_n hx hb dX2_take_31 rfl (lv_at hl 1 rfl) ?_
    refine lv_iload_n hx hb dX2_take_32 rfl (lv_at hl 4 rfl) ?_
    -- c_noEnd_o
    refine pw_cVp (As := [.int (way)]) (rest := []) (wc := [(h, .inr (2, [.ref qr, .ref qp, .int (nI md), .int (r0), .int (r1), .int (r2), .int (r3)]))]) ⟨hx, hb, hml, hown, hts⟩ (c_noEnd_o l D cI cP cR h qr qp md r0 r1 r2 r3 way he) (cwV 1 hts gX2_take_X2_noEnd rfl rfl rfl (by decide +kernel) ⟨Nat.le_of_ble_eq_true rfl, Nat.le_of_ble_eq_true rfl⟩) hK hP hD [0] rfl (by decide) 0 rfl rfl rfl rfl hl.1 rfl (Nat.le_of_ble_eq_true rfl) dX2_take_33 ⟨Nat.zero_le _, Nat.zero_le _⟩ ?_
    exact pw_piret hx hb hr (rfl) hlocks dX2_take_36 (rfl)
set_option maxHeartbeats 4000000 in
set_option maxRecDepth 100000 in
theorem k_take (l : Launch) (D : va_G) (cI cP cR : ClassId) (h qr qp md : Nat) (r0 r1 r2 r3 : Int32) (ro : Nat → Nat) (i a n : Nat) (ch : Int32) (f : Nat → Int32) (hi : i < 3) (hn : n ≤ 60) (la way : Int32) (hw : (0 ≤ way ∧ way ≤ (if la = 0 then nI 4 else nI 1))) (hz : ¬ n = 0) : pw_Mm l yX2_take wsX2_take ({ frames := 2, cells := 0, slots := 0, locals := 44 } : Room) D cI cP cR [.ref h, .int (nI i), .int (la), .int (way)] ([(h, .inr (2, [.ref qr, .ref qp, .int (nI md), .int (r0), .int (r1), .int (r2), .int (r3)])), (qr, .inl (cR, 3, .inr (.inr (.inr (.inr (fun i => some (ro i))))))), (ro i, .inr (1, [.ref a, .int (nI n), .int (ch)])), (a, .inl (cI, 60, .inl (f)))]) (fun v w => v = some (.int (f (plF la (n - 1)))) ∧ w = [(h, .inr (2, [.ref qr, .ref qp, .int (nI md), .int (r0), .int (r1), .int (r2), .int (r3)])), (qr, .inl (cR, 3, .inr (.inr (.inr (.inr (fun i => some (ro i))))))), (ro i, .inr (1, [.ref a, .int (nI (n - 1)), .int (ch + nI 1)])), (a, .inl (cI, 60, .inl (clsF f (plF la (n - 1)) n)))]) := by
  refine pw_ofm (cc := cX2_take) (maxL := 5) (ret := (some .int)) (own := RX2) (by decide +kernel) rfl rfl (Nat.le_of_ble_eq_true rfl) ?_
  intro p_ e_ s m bel meth cd A hE hK hP hD hA hS ls hl
  obtain ⟨hx, hb, hr, hml, hown, hts, hlocks⟩ := hE
  have hNW := hK.2
  have hl : lv_has ls 5 [(0, .ref h), (1, .int (nI i)), (2, .int (la)), (3, .int (way))] := hl
  refine lv_aload_n hx hb dX2_take_0 rfl (lv_at hl 0 rfl) ?_
  refine lv_iload_n hx hb dX2_take_1 rfl (lv_at hl 1 rfl) ?_
  -- c_rowOf_i
  refine pw_cVp (As := [.int (nI i)]) (rest := []) (wc := [(h, .inr (2, [.ref qr, .ref qp, .int (nI md), .int (r0), .int (r1), .int (r2), .int (r3)])), (qr, .inl (cR, 3, .inr (.inr (.inr (.inr (fun i => some (ro i)))))))]) ⟨hx, hb, hml, hown, hts⟩ (c_rowOf_i l D cI cP cR h qr qp md r0 r1 r2 r3 ro i (by omega)) (cwV 1 hts gX2_take_X2_rowOf rfl rfl rfl (by decide +kernel) ⟨Nat.le_of_ble_eq_true rfl, Nat.le_of_ble_eq_true rfl⟩) hK hP hD [0, 1] rfl (by decide) 0 rfl rfl rfl rfl hl.1 rfl (Nat.le_of_ble_eq_true rfl) dX2_take_2 ⟨Nat.zero_le _, Nat.zero_le _⟩ ?_
  refine lv_astore (lv' := [(4, .ref (ro i)), (0, .ref h), (1, .int (nI i)), (2, .int (la)), (3, .int (way))]) hx hb dX2_take_5 hl (by decide) rfl (fun ls hl => ?_)
  refine lv_aload hx hb dX2_take_7 (lv_at hl 0 rfl) ?_
  refine lv_ifnull hx hb dX2_take_9 ?_
  refine lv_iload_n hx hb dX2_take_12 rfl (lv_at hl 4 rfl) ?_
  refine lv_iconst (v := nI 4) hx hb dX2_take_13 (by decide) ?_
  refine lv_iload_n hx hb dX2_take_14 rfl (lv_at hl 3 rfl) ?_
  -- c_isEndWay_t
  refine pw_cSp (As := [.int (way), .int (nI 4), .int (la)]) (rest := []) ⟨hx, hb, hml, hown, hts⟩ (c_isEndWay_t l D cI cP cR way (nI 4) la hw) (va_cwS 3 hts gX2_take_X2_isEndWay rfl rfl rfl (by decide +kernel) ⟨Nat.le_of_ble_eq_true rfl, Nat.le_of_ble_eq_true rfl⟩) hK rfl hl.1 rfl (Nat.le_of_ble_eq_true rfl) dX2_take_15 ⟨Nat.zero_le _, Nat.zero_le _⟩ ?_
  refine lv_if_ne (tgt := 23) hx hb dX2_take_18 (by decide) (fun c => ?_) (fun c => absurd c (by decide))
  refine lv_aload hx hb dX2_take_23 (lv_at hl 0 rfl) ?_
  refine va_getN (D := D) (ci := 1) (v := .int (nI n)) (C := RX1) (T := TX1) (N := 3) hx hb hts hi_X2_take_1 hown hK.1 hP 2 rfl rfl 1 (by decide) (va_Nw.use rfl hNW.1) (fun _ h9 => h9) rfl dX2_take_25 ?_
  refine pw_if_ne (tgt := 37) hx hb (by omega) dX2_take_28 (by decide) (fun c_1 => ?_) (fun c_1 => ?_)
  · have _h := c_1
    refine lv_aload hx hb dX2_take_37 (lv_at hl 0 rfl) ?_
    refine lv_iload_n hx hb dX2_take_39 rfl (lv_at hl 3 rfl) ?_
    refine lv_if_eq (tgt := 53) hx hb dX2_take_40 (by decide) (fun c_2 => ?_) (fun c_2 => ?_)
    · have _h := c_2
      refine lv_iconst (v := nI 0) hx hb dX2_take_53 (by decide) ?_
      -- c_takeAt
      refine pw_cVm (As := [.int (nI 0)]) (rest := []) (wc := [(ro i, .inr (1, [.ref a, .int (nI n), .int (ch)])), (a, .inl (cI, 60, .inl (f)))]) (wr := [(h, .inr (2, [.ref qr, .ref qp, .int (nI md), .int (r0), .int (r1), .int (r2), .int (r3)])), (qr, .inl (cR, 3, .inr (.inr (.inr (.inr (fun i => some (ro i)))))))]) ⟨hx, hb, hml, hown, hts⟩ (c_takeAt l D cI cP cR (ro i) a n ch f 0 (by omega) (by omega)) (cwV 1 hts gX2_take_X1_takeAt rfl rfl rfl (by decide +kernel) ⟨Nat.le_of_ble_eq_true rfl, Nat.le_of_ble_eq_true rfl⟩) hK hP hD hS hA [2, 3] [0, 1] rfl rfl (by decide) (by decide) (by decide) 0 rfl rfl rfl rfl hl.1 rfl (Nat.le_of_ble_eq_true rfl) dX2_take_54 ⟨Nat.zero_le _, Nat.zero_le _⟩ (fun v1 w1 H locs hq hP hD hS => ?_)
      rcases hq with ⟨rfl, rfl⟩
      have hP : va_P D vwCl ([(h, .inr (2, [.ref qr, .ref qp, .int (nI md), .int (r0), .int (r1), .int (r2), .int (r3)])), (qr, .inl (cR, 3, .inr (.inr (.inr (.inr (fun i => some (ro i))))))), (ro i, .inr (1, [.ref a, .int (nI (n - 1)), .int (ch + nI 1)])), (a, .inl (cI, 60, .inl (clsF f 0 n)))]) H := hP
      have hD : va_D A ([(h, .inr (2, [.ref qr, .ref qp, .int (nI md), .int (r0), .int (r1), .int (r2), .int (r3)])), (qr, .inl (cR, 3, .inr (.inr (.inr (.inr (fun i => some (ro i))))))), (ro i, .inr (1, [.ref a, .int (nI (n - 1)), .int (ch + nI 1)])), (a, .inl (cI, 60, .inl (clsF f 0 n)))]) := hD
      refine W.eq (g2 := F0 m 57 ls [.int (f 0)]) rfl ?_
      have hP := hP.sub (ws' := [(h, .inr (2, [.ref qr, .ref qp, .int (nI md), .int (r0), .int (r1), .int (r2), .int (r3)])), (qr, .inl (cR, 3, .inr (.inr (.inr (.inr (fun i => some (ro i))))))), (ro i, .inr (1, [.ref a, .int (nI (n - 1)), .int (ch + nI 1)])), (a, .inl (cI, 60, .inl (clsF f 0 n)))]) [0, 1, 2, 3] rfl
      have hD := hD.sub (ws' := [(h, .inr (2, [.ref qr, .ref qp, .int (nI md), .int (r0), .int (r1), .int (r2), .int (r3)])), (qr, .inl (cR, 3, .inr (.inr (.inr (.inr (fun i => some (ro i))))))), (ro i, .inr (1, [.ref a, .int (nI (n - 1)), .int (ch + nI 1)])), (a, .inl (cI, 60, .inl (clsF f 0 n)))]) [0, 1, 2, 3] (by decide) rfl
      exact pw_iret hx hb hr (rfl) hlocks dX2_take_57 hS hP hD (by unfold plF; rw [if_pos c_2]; exact ⟨rfl, rfl⟩)
    · have _h := c_2
      refine lv_aload hx hb dX2_take_43 (lv_at hl 0 rfl) ?_
      refine va_getN (D := D) (ci := 1) (v := .int (nI n)) (C := RX1) (T := TX1) (N := 3) hx hb hts hi_X2_take_1 hown hK.1 hP 2 rfl rfl 1 (by decide) (va_Nw.use rfl hNW.1) (fun _ h9 => h9) rfl dX2_take_45 ?_
      refine lv_iconst (v := nI 1) hx hb dX2_take_48 (by decide) ?_
      refine pw_isub hx hb (by omega) dX2_take_49 ?_
      refine lv_goto (tgt := 54) hx hb dX2_take_50 (by decide) ?_
      -- c_takeAt
      refine pw_cVm (As := [.int (nI (n - 1))]) (rest := []) (wc := [(ro i, .inr (1, [.ref a, .int (nI n), .int (ch)])), (a, .inl (cI, 60, .inl (f)))]) (wr := [(h, .inr (2, [.ref qr, .ref qp, .int (nI md), .int (r0), .int (r1), .int (r2), .int (r3)])), (qr, .inl (cR, 3, .inr (.inr (.inr (.inr (fun i => some (ro i)))))))]) ⟨hx, hb, hml, hown, hts⟩ (c_takeAt l D cI cP cR (ro i) a n ch f (n - 1) (by omega) (by omega)) (cwV 1 hts gX2_take_X1_takeAt rfl rfl rfl (by decide +kernel) ⟨Nat.le_of_ble_eq_true rfl, Nat.le_of_ble_eq_true rfl⟩) hK hP hD hS hA [2, 3] [0, 1] rfl rfl (by decide) (by decide) (by decide) 0 rfl rfl rfl rfl hl.1 rfl (Nat.le_of_ble_eq_true rfl) dX2_take_54 ⟨Nat.zero_le _, Nat.zero_le _⟩ (fun v1 w1 H locs hq hP hD hS => ?_)
      rcases hq with ⟨rfl, rfl⟩
      have hP : va_P D vwCl ([(h, .inr (2, [.ref qr, .ref qp, .int (nI md), .int (r0), .int (r1), .int (r2), .int (r3)])), (qr, .inl (cR, 3, .inr (.inr (.inr (.inr (fun i => some (ro i))))))), (ro i, .inr (1, [.ref a, .int (nI (n - 1)), .int (ch + nI 1)])), (a, .inl (cI, 60, .inl (clsF f (n - 1) n)))]) H := hP
      have hD : va_D A ([(h, .inr (2, [.ref qr, .ref qp, .int (nI md), .int (r0), .int (r1), .int (r2), .int (r3)])), (qr, .inl (cR, 3, .inr (.inr (.inr (.inr (fun i => some (ro i))))))), (ro i, .inr (1, [.ref a, .int (nI (n - 1)), .int (ch + nI 1)])), (a, .inl (cI, 60, .inl (clsF f (n - 1) n)))]) := hD
      refine W.eq (g2 := F0 m 57 ls [.int (f (n - 1))]) rfl ?_
      have hP := hP.sub (ws' := [(h, .inr (2, [.ref qr, .ref qp, .int (nI md), .int (r0), .int (r1), .int (r2), .int (r3)])), (qr, .inl (cR, 3, .inr (.inr (.inr (.inr (fun i => some (ro i))))))), (ro i, .inr (1, [.ref a, .int (nI (n - 1)), .int (ch + nI 1)])), (a, .inl (cI, 60, .inl (clsF f (n - 1) n)))]) [0, 1, 2, 3] rfl
      have hD := hD.sub (ws' := [(h, .inr (2, [.ref qr, .ref qp, .int (nI md), .int (r0), .int (r1), .int (r2), .int (r3)])), (qr, .inl (cR, 3, .inr (.inr (.inr (.inr (fun i => some (ro i))))))), (ro i, .inr (1, [.ref a, .int (nI (n - 1)), .int (ch + nI 1)])), (a, .inl (cI, 60, .inl (clsF f (n - 1) n)))]) [0, 1, 2, 3] (by decide) rfl
      exact pw_iret hx hb hr (rfl) hlocks dX2_take_57 hS hP hD (by unfold plF; rw [if_neg c_2]; exact ⟨rfl, rfl⟩)
  · exact absurd c_1 hz
set_option maxHeartbeats 4000000 in
set_option maxRecDepth 100000 in
theorem k_at_x (l : Launch) (D : va_G) (cI cP cR : ClassId) (h qr qp md : Nat) (r0 r1 r2 r3 : Int32) (ro : Nat → Nat) (row q : Int32) (hx_row : ¬ (0 ≤ row ∧ row < nI 3)) : pw_Mp l yX2_at wsX2_at ({ frames := 2, cells := 0, slots := 0, locals := 45 } : Room) D cI cP cR [.ref h, .int (row), .int (q)] ([(h, .inr (2, [.ref qr, .ref qp, .int (nI md), .int (r0), .int (r1), .int (r2), .int (r3)])), (qr, .inl (cR, 3, .inr (.inr (.inr (.inr (fun i => some (ro i)))))))]) (.int (-1)) := by
  refine pw_ofp (cc := cX2_at) (maxL := 4) (ret := (some .int)) (own := RX2) (by decide +kernel) rfl rfl (Nat.le_of_ble_eq_true rfl) ?_
  intro p_ e_ s m bel meth cd hE hK hP hD ls hl
  obtain ⟨hx, hb, hr, hml, hown, hts, hlocks⟩ := hE
  have hNW := hK.2
  have hl : lv_has ls 4 [(0, .ref h), (1, .int (row)), (2, .int (q))] := hl
  refine lv_aload_n hx hb dX2_at_0 rfl (lv_at hl 0 rfl) ?_
  refine lv_iload_n hx hb dX2_at_1 rfl (lv_at hl 1 rfl) ?_
  -- c_rowOf_n
  refine pw_cVp (As := [.int (row)]) (rest := []) (wc := [(h, .inr (2, [.ref qr, .ref qp, .int (nI md), .int (r0), .int (r1), .int (r2), .int (r3)])), (qr, .inl (cR, 3, .inr (.inr (.inr (.inr (fun i => some (ro i)))))))]) ⟨hx, hb, hml, hown, hts⟩ (c_rowOf_n l D cI cP cR h qr qp md r0 r1 r2 r3 ro row hx_row) (cwV 1 hts gX2_at_X2_rowOf rfl rfl rfl (by decide +kernel) ⟨Nat.le_of_ble_eq_true rfl, Nat.le_of_ble_eq_true rfl⟩) hK hP hD [0, 1] rfl (by decide) 0 rfl rfl rfl rfl hl.1 rfl (Nat.le_of_ble_eq_true rfl) dX2_at_2 ⟨Nat.zero_le _, Nat.zero_le _⟩ ?_
  refine lv_astore_nN (lv' := [(3, .null), (0, .ref h), (1, .int (row)), (2, .int (q))]) hx hb dX2_at_5 rfl hl (by decide) rfl (fun ls hl => ?_)
  refine lv_aload_nN hx hb dX2_at_6 rfl (lv_at hl 0 rfl) ?_
  refine lv_ifnonnullN hx hb dX2_at_7 ?_
  refine lv_iconst (v := -1) hx hb dX2_at_10 (by decide) ?_
  exact pw_piret hx hb hr (rfl) hlocks dX2_at_11 (rfl)
set_option maxHeartbeats 4000000 in
set_option maxRecDepth 100000 in
theorem k_at_p (l : Launch) (D : va_G) (cI cP cR : ClassId) (h qr qp md : Nat) (r0 r1 r2 r3 : Int32) (ro : Nat → Nat) (i a n : Nat) (ch : Int32) (f : Nat → Int32) (hi : i < 3) (hn : n ≤ 60) (q : Int32) (hq : ¬ (0 ≤ q ∧ q < nI n)) : pw_Mm l yX2_at wsX2_at ({ frames := 2, cells := 0, slots := 0, locals := 45 } : Room) D cI cP cR [.ref h, .int (nI i), .int (q)] ([(h, .inr (2, [.ref qr, .ref qp, .int (nI md), .int (r0), .int (r1), .int (r2), .int (r3)])), (qr, .inl (cR, 3, .inr (.inr (.inr (.inr (fun i => some (ro i))))))), (ro i, .inr (1, [.ref a, .int (nI n), .int (ch)])), (a, .inl (cI, 60, .inl (f)))]) (fun v w => v = some (.int (-5)) ∧ w = [(h, .inr (2, [.ref qr, .ref qp, .int (nI md), .int (r0), .int (r1 + nI 1), .int (r2), .int (r3)])), (qr, .inl (cR, 3, .inr (.inr (.inr (.inr (fun i => some (ro i))))))), (ro i, .inr (1, [.ref a, .int (nI n), .int (ch)])), (a, .inl (cI, 60, .inl (f)))]) := by
  refine pw_ofm (cc := cX2_at) (maxL := 4) (ret := (some .int)) (own := RX2) (by decide +kernel) rfl rfl (Nat.le_of_ble_eq_true rfl) ?_
  intro p_ e_ s m bel meth cd A hE hK hP hD hA hS ls hl
  obtain ⟨hx, hb, hr, hml, hown, hts, hlocks⟩ := hE
  have hNW := hK.2
  have hl : lv_has ls 4 [(0, .ref h), (1, .int (nI i)), (2, .int (q))] := hl
  refine lv_aload_n hx hb dX2_at_0 rfl (lv_at hl 0 rfl) ?_
  refine lv_iload_n hx hb dX2_at_1 rfl (lv_at hl 1 rfl) ?_
  -- c_rowOf_i
  refine pw_cVp (As := [.int (nI i)]) (rest := []) (wc := [(h, .inr (2, [.ref qr, .ref qp, .int (nI md), .int (r0), .int (r1), .int (r2), .int (r3)])), (qr, .inl (cR, 3, .inr (.inr (.inr (.inr (fun i => some (ro i)))))))]) ⟨hx, hb, hml, hown, hts⟩ (c_rowOf_i l D cI cP cR h qr qp md r0 r1 r2 r3 ro i (by omega)) (cwV 1 hts gX2_at_X2_rowOf rfl rfl rfl (by decide +kernel) ⟨Nat.le_of_ble_eq_true rfl, Nat.le_of_ble_eq_true rfl⟩) hK hP hD [0, 1] rfl (by decide) 0 rfl rfl rfl rfl hl.1 rfl (Nat.le_of_ble_eq_true rfl) dX2_at_2 ⟨Nat.zero_le _, Nat.zero_le _⟩ ?_
  refine lv_astore_n (lv' := [(3, .ref (ro i)), (0, .ref h), (1, .int (nI i)), (2, .int (q))]) hx hb dX2_at_5 rfl hl (by decide) rfl (fun ls hl => ?_)
  refine lv_aload_n hx hb dX2_at_6 rfl (lv_at hl 0 rfl) ?_
  refine lv_ifnonnull (tgt := 12) hx hb dX2_at_7 (by decide) ?_
  refine lv_aload_n hx hb dX2_at_12 rfl (lv_at hl 0 rfl) ?_
  refine lv_iload_n hx hb dX2_at_13 rfl (lv_at hl 3 rfl) ?_
  -- c_hasThingAt_f
  refine pw_cVp (As := [.int (q)]) (rest := []) (wc := [(ro i, .inr (1, [.ref a, .int (nI n), .int (ch)])), (a, .inl (cI, 60, .inl (f)))]) ⟨hx, hb, hml, hown, hts⟩ (c_hasThingAt_f l D cI cP cR (ro i) a n ch f q hq) (cwV 1 hts gX2_at_X1_hasThingAt rfl rfl rfl (by decide +kernel) ⟨Nat.le_of_ble_eq_true rfl, Nat.le_of_ble_eq_true rfl⟩) hK hP hD [2, 3] rfl (by decide) 0 rfl rfl rfl rfl hl.1 rfl (Nat.le_of_ble_eq_true rfl) dX2_at_14 ⟨Nat.zero_le _, Nat.zero_le _⟩ ?_
  refine lv_if_ne (tgt := 27) hx hb dX2_at_17 (by decide) (fun c => absurd c (by decide)) (fun c => ?_)
  refine lv_aload_n hx hb dX2_at_20 rfl (lv_at hl 1 rfl) ?_
  refine lv_bipush (v := -5) hx hb dX2_at_21 (by decide) ?_
  -- c_refused_p
  refine pw_cVm (As := [.int (-5)]) (rest := []) (wc := [(h, .inr (2, [.ref qr, .ref qp, .int (nI md), .int (r0), .int (r1), .int (r2), .int (r3)]))]) (wr := [(qr, .inl (cR, 3, .inr (.inr (.inr (.inr (fun i => some (ro i))))))), (ro i, .inr (1, [.ref a, .int (nI n), .int (ch)])), (a, .inl (cI, 60, .inl (f)))]) ⟨hx, hb, hml, hown, hts⟩ (c_refused_p l D cI cP cR h qr qp md r0 r1 r2 r3) (cwV 1 hts gX2_at_X2_refused rfl rfl rfl (by decide +kernel) ⟨Nat.le_of_ble_eq_true rfl, Nat.le_of_ble_eq_true rfl⟩) hK hP hD hS hA [0] [1, 2, 3] rfl rfl (by decide) (by decide) (by decide) 0 rfl rfl rfl rfl hl.1 rfl (Nat.le_of_ble_eq_true rfl) dX2_at_23 ⟨Nat.zero_le _, Nat.zero_le _⟩ (fun v1 w1 H locs hq hP hD hS => ?_)
  rcases hq with ⟨rfl, rfl⟩
  have hP : va_P D vwCl ([(qr, .inl (cR, 3, .inr (.inr (.inr (.inr (fun i => some (ro i))))))), (ro i, .inr (1, [.ref a, .int (nI n), .int (ch)])), (a, .inl (cI, 60, .inl (f))), (h, .inr (2, [.ref qr, .ref qp, .int (nI md), .int (r0), .int (r1 + nI 1), .int (r2), .int (r3)]))]) H := hP
  have hD : va_D A ([(qr, .inl (cR, 3, .inr (.inr (.inr (.inr (fun i => some (ro i))))))), (ro i, .inr (1, [.ref a, .int (nI n), .int (ch)])), (a, .inl (cI, 60, .inl (f))), (h, .inr (2, [.ref qr, .ref qp, .int (nI md), .int (r0), .int (r1 + nI 1), .int (r2), .int (r3)]))]) := hD
  refine W.eq (g2 := F0 m 26 ls [.int (-5)]) rfl ?_
  have hP := hP.sub (ws' := [(h, .inr (2, [.ref qr, .ref qp, .int (nI md), .int (r0), .int (r1 + nI 1), .int (r2), .int (r3)])), (qr, .inl (cR, 3, .inr (.inr (.inr (.inr (fun i => some (ro i))))))), (ro i, .inr (1, [.ref a, .int (nI n), .int (ch)])), (a, .inl (cI, 60, .inl (f)))]) [3, 0, 1, 2] rfl
  have hD := hD.sub (ws' := [(h, .inr (2, [.ref qr, .ref qp, .int (nI md), .int (r0), .int (r1 + nI 1), .int (r2), .int (r3)])), (qr, .inl (cR, 3, .inr (.inr (.inr (.inr (fun i => some (ro i))))))), (ro i, .inr (1, [.ref a, .int (nI n), .int (ch)])), (a, .inl (cI, 60, .inl (f)))]) [3, 0, 1, 2] (by decide) rfl
  exact pw_iret hx hb hr (rfl) hlocks dX2_at_26 hS hP hD (⟨rfl, rfl⟩)
set_option maxHeartbeats 4000000 in
set_option maxRecDepth 100000 in
theorem k_at (l : Launch) (D : va_G) (cI cP cR : ClassId) (h qr qp md : Nat) (r0 r1 r2 r3 : Int32) (ro : Nat → Nat) (i a n : Nat) (ch : Int32) (f : Nat → Int32) (hi : i < 3) (hn : n ≤ 60) (j : Nat) (hj : j < n) : pw_Mp l yX2_at wsX2_at ({ frames := 2, cells := 0, slots := 0, locals := 45 } : Room) D cI cP cR [.ref h, .int (nI i), .int (nI j)] ([(h, .inr (2, [.ref qr, .ref qp, .int (nI md), .int (r0), .int (r1), .int (r2), .int (r3)])), (qr, .inl (cR, 3, .inr (.inr (.inr (.inr (fun i => some (ro i))))))), (ro i, .inr (1, [.ref a, .int (nI n), .int (ch)])), (a, .inl (cI, 60, .inl (f)))]) (.int (f j)) := by
  refine pw_ofp (cc := cX2_at) (maxL := 4) (ret := (some .int)) (own := RX2) (by decide +kernel) rfl rfl (Nat.le_of_ble_eq_true rfl) ?_
  intro p_ e_ s m bel meth cd hE hK hP hD ls hl
  obtain ⟨hx, hb, hr, hml, hown, hts, hlocks⟩ := hE
  have hNW := hK.2
  have hl : lv_has ls 4 [(0, .ref h), (1, .int (nI i)), (2, .int (nI j))] := hl
  refine lv_aload_n hx hb dX2_at_0 rfl (lv_at hl 0 rfl) ?_
  refine lv_iload_n hx hb dX2_at_1 rfl (lv_at hl 1 rfl) ?_
  -- c_rowOf_i
  refine pw_cVp (As := [.int (nI i)]) (rest := []) (wc := [(h, .inr (2, [.ref qr, .ref qp, .int (nI md), .int (r0), .int (r1), .int (r2), .int (r3)])), (qr, .inl (cR, 3, .inr (.inr (.inr (.inr (fun i => some (ro i)))))))]) ⟨hx, hb, hml, hown, hts⟩ (c_rowOf_i l D cI cP cR h qr qp md r0 r1 r2 r3 ro i (by omega)) (cwV 1 hts gX2_at_X2_rowOf rfl rfl rfl (by decide +kernel) ⟨Nat.le_of_ble_eq_true rfl, Nat.le_of_ble_eq_true rfl⟩) hK hP hD [0, 1] rfl (by decide) 0 rfl rfl rfl rfl hl.1 rfl (Nat.le_of_ble_eq_true rfl) dX2_at_2 ⟨Nat.zero_le _, Nat.zero_le _⟩ ?_
  refine lv_astore_n (lv' := [(3, .ref (ro i)), (0, .ref h), (1, .int (nI i)), (2, .int (nI j))]) hx hb dX2_at_5 rfl hl (by decide) rfl (fun ls hl => ?_)
  refine lv_aload_n hx hb dX2_at_6 rfl (lv_at hl 0 rfl) ?_
  refine lv_ifnonnull (tgt := 12) hx hb dX2_at_7 (by decide) ?_
  refine lv_aload_n hx hb dX2_at_12 rfl (lv_at hl 0 rfl) ?_
  refine lv_iload_n hx hb dX2_at_13 rfl (lv_at hl 3 rfl) ?_
  -- c_hasThingAt_t
  refine pw_cVp (As := [.int (nI j)]) (rest := []) (wc := [(ro i, .inr (1, [.ref a, .int (nI n), .int (ch)])), (a, .inl (cI, 60, .inl (f)))]) ⟨hx, hb, hml, hown, hts⟩ (c_hasThingAt_t l D cI cP cR (ro i) a n ch f j (by omega) (by omega)) (cwV 1 hts gX2_at_X1_hasThingAt rfl rfl rfl (by decide +kernel) ⟨Nat.le_of_ble_eq_true rfl, Nat.le_of_ble_eq_true rfl⟩) hK hP hD [2, 3] rfl (by decide) 0 rfl rfl rfl rfl hl.1 rfl (Nat.le_of_ble_eq_true rfl) dX2_at_14 ⟨Nat.zero_le _, Nat.zero_le _⟩ ?_
  refine lv_if_ne (tgt := 27) hx hb dX2_at_17 (by decide) (fun c => ?_) (fun c => absurd c (by decide))
  refine lv_aload_n hx hb dX2_at_27 rfl (lv_at hl 0 rfl) ?_
  refine lv_iload_n hx hb dX2_at_28 rfl (lv_at hl 3 rfl) ?_
  -- c_thingAt
  refine pw_cVp (As := [.int (nI j)]) (rest := []) (wc := [(ro i, .inr (1, [.ref a, .int (nI n), .int (ch)])), (a, .inl (cI, 60, .inl (f)))]) ⟨hx, hb, hml, hown, hts⟩ (c_thingAt l D cI cP cR (ro i) a n ch f j (by omega)) (cwV 1 hts gX2_at_X1_thingAt rfl rfl rfl (by decide +kernel) ⟨Nat.le_of_ble_eq_true rfl, Nat.le_of_ble_eq_true rfl⟩) hK hP hD [2, 3] rfl (by decide) 0 rfl rfl rfl rfl hl.1 rfl (Nat.le_of_ble_eq_true rfl) dX2_at_29 ⟨Nat.zero_le _, Nat.zero_le _⟩ ?_
  exact pw_piret hx hb hr (rfl) hlocks dX2_at_32 (rfl)
set_option maxHeartbeats 4000000 in
set_option maxRecDepth 100000 in
theorem k_drop_x (l : Launch) (D : va_G) (cI cP cR : ClassId) (h qr qp md : Nat) (r0 r1 r2 r3 : Int32) (ro : Nat → Nat) (row q : Int32) (hx_row : ¬ (0 ≤ row ∧ row < nI 3)) : pw_Mp l yX2_drop wsX2_drop ({ frames := 2, cells := 0, slots := 0, locals := 45 } : Room) D cI cP cR [.ref h, .int (row), .int (q)] ([(h, .inr (2, [.ref qr, .ref qp, .int (nI md), .int (r0), .int (r1), .int (r2), .int (r3)])), (qr, .inl (cR, 3, .inr (.inr (.inr (.inr (fun i => some (ro i)))))))]) (.int (-1)) := by
  refine pw_ofp (cc := cX2_drop) (maxL := 4) (ret := (some .int)) (own := RX2) (by decide +kernel) rfl rfl (Nat.le_of_ble_eq_true rfl) ?_
  intro p_ e_ s m bel meth cd hE hK hP hD ls hl
  obtain ⟨hx, hb, hr, hml, hown, hts, hlocks⟩ := hE
  have hNW := hK.2
  have hl : lv_has ls 4 [(0, .ref h), (1, .int (row)), (2, .int (q))] := hl
  refine lv_aload_n hx hb dX2_drop_0 rfl (lv_at hl 0 rfl) ?_
  refine lv_iload_n hx hb dX2_drop_1 rfl (lv_at hl 1 rfl) ?_
  -- c_rowOf_n
  refine pw_cVp (As := [.int (row)]) (rest := []) (wc := [(h, .inr (2, [.ref qr, .ref qp, .int (nI md), .int (r0), .int (r1), .int (r2), .int (r3)])), (qr, .inl (cR, 3, .inr (.inr (.inr (.inr (fun i => some (ro i)))))))]) ⟨hx, hb, hml, hown, hts⟩ (c_rowOf_n l D cI cP cR h qr qp md r0 r1 r2 r3 ro row hx_row) (cwV 1 hts gX2_drop_X2_rowOf rfl rfl rfl (by decide +kernel) ⟨Nat.le_of_ble_eq_true rfl, Nat.le_of_ble_eq_true rfl⟩) hK hP hD [0, 1] rfl (by decide) 0 rfl rfl rfl rfl hl.1 rfl (Nat.le_of_ble_eq_true rfl) dX2_drop_2 ⟨Nat.zero_le _, Nat.zero_le _⟩ ?_
  refine lv_astore_nN (lv' := [(3, .null), (0, .ref h), (1, .int (row)), (2, .int (q))]) hx hb dX2_drop_5 rfl hl (by decide) rfl (fun ls hl => ?_)
  refine lv_aload_nN hx hb dX2_drop_6 rfl (lv_at hl 0 rfl) ?_
  refine lv_ifnonnullN hx hb dX2_drop_7 ?_
  refine lv_iconst (v := -1) hx hb dX2_drop_10 (by decide) ?_
  exact pw_piret hx hb hr (rfl) hlocks dX2_drop_11 (rfl)
set_option maxHeartbeats 4000000 in
set_option maxRecDepth 100000 in
theorem k_drop_p (l : Launch) (D : va_G) (cI cP cR : ClassId) (h qr qp md : Nat) (r0 r1 r2 r3 : Int32) (ro : Nat → Nat) (i a n : Nat) (ch : Int32) (f : Nat → Int32) (hi : i < 3) (hn : n ≤ 60) (q : Int32) (hq : ¬ (0 ≤ q ∧ q < nI n)) : pw_Mm l yX2_drop wsX2_drop ({ frames := 2, cells := 0, slots := 0, locals := 45 } : Room) D cI cP cR [.ref h, .int (nI i), .int (q)] ([(h, .inr (2, [.ref qr, .ref qp, .int (nI md), .int (r0), .int (r1), .int (r2), .int (r3)])), (qr, .inl (cR, 3, .inr (.inr (.inr (.inr (fun i => some (ro i))))))), (ro i, .inr (1, [.ref a, .int (nI n), .int (ch)])), (a, .inl (cI, 60, .inl (f)))]) (fun v w => v = some (.int (-5)) ∧ w = [(h, .inr (2, [.ref qr, .ref qp, .int (nI md), .int (r0), .int (r1 + nI 1), .int (r2), .int (r3)])), (qr, .inl (cR, 3, .inr (.inr (.inr (.inr (fun i => some (ro i))))))), (ro i, .inr (1, [.ref a, .int (nI n), .int (ch)])), (a, .inl (cI, 60, .inl (f)))]) := by
  refine pw_ofm (cc := cX2_drop) (maxL := 4) (ret := (some .int)) (own := RX2) (by decide +kernel) rfl rfl (Nat.le_of_ble_eq_true rfl) ?_
  intro p_ e_ s m bel meth cd A hE hK hP hD hA hS ls hl
  obtain ⟨hx, hb, hr, hml, hown, hts, hlocks⟩ := hE
  have hNW := hK.2
  have hl : lv_has ls 4 [(0, .ref h), (1, .int (nI i)), (2, .int (q))] := hl
  refine lv_aload_n hx hb dX2_drop_0 rfl (lv_at hl 0 rfl) ?_
  refine lv_iload_n hx hb dX2_drop_1 rfl (lv_at hl 1 rfl) ?_
  -- c_rowOf_i
  refine pw_cVp (As := [.int (nI i)]) (rest := []) (wc := [(h, .inr (2, [.ref qr, .ref qp, .int (nI md), .int (r0), .int (r1), .int (r2), .int (r3)])), (qr, .inl (cR, 3, .inr (.inr (.inr (.inr (fun i => some (ro i)))))))]) ⟨hx, hb, hml, hown, hts⟩ (c_rowOf_i l D cI cP cR h qr qp md r0 r1 r2 r3 ro i (by omega)) (cwV 1 hts gX2_drop_X2_rowOf rfl rfl rfl (by decide +kernel) ⟨Nat.le_of_ble_eq_true rfl, Nat.le_of_ble_eq_true rfl⟩) hK hP hD [0, 1] rfl (by decide) 0 rfl rfl rfl rfl hl.1 rfl (Nat.le_of_ble_eq_true rfl) dX2_drop_2 ⟨Nat.zero_le _, Nat.zero_le _⟩ ?_
  refine lv_astore_n (lv' := [(3, .ref (ro i)), (0, .ref h), (1, .int (nI i)), (2, .int (q))]) hx hb dX2_drop_5 rfl hl (by decide) rfl (fun ls hl => ?_)
  refine lv_aload_n hx hb dX2_drop_6 rfl (lv_at hl 0 rfl) ?_
  refine lv_ifnonnull (tgt := 12) hx hb dX2_drop_7 (by decide) ?_
  refine lv_aload_n hx hb dX2_drop_12 rfl (lv_at hl 0 rfl) ?_
  refine lv_iload_n hx hb dX2_drop_13 rfl (lv_at hl 3 rfl) ?_
  -- c_hasThingAt_f
  refine pw_cVp (As := [.int (q)]) (rest := []) (wc := [(ro i, .inr (1, [.ref a, .int (nI n), .int (ch)])), (a, .inl (cI, 60, .inl (f)))]) ⟨hx, hb, hml, hown, hts⟩ (c_hasThingAt_f l D cI cP cR (ro i) a n ch f q hq) (cwV 1 hts gX2_drop_X1_hasThingAt rfl rfl rfl (by decide +kernel) ⟨Nat.le_of_ble_eq_true rfl, Nat.le_of_ble_eq_true rfl⟩) hK hP hD [2, 3] rfl (by decide) 0 rfl rfl rfl rfl hl.1 rfl (Nat.le_of_ble_eq_true rfl) dX2_drop_14 ⟨Nat.zero_le _, Nat.zero_le _⟩ ?_
  refine lv_if_ne (tgt := 27) hx hb dX2_drop_17 (by decide) (fun c => absurd c (by decide)) (fun c => ?_)
  refine lv_aload_n hx hb dX2_drop_20 rfl (lv_at hl 1 rfl) ?_
  refine lv_bipush (v := -5) hx hb dX2_drop_21 (by decide) ?_
  -- c_refused_p
  refine pw_cVm (As := [.int (-5)]) (rest := []) (wc := [(h, .inr (2, [.ref qr, .ref qp, .int (nI md), .int (r0), .int (r1), .int (r2), .int (r3)]))]) (wr := [(qr, .inl (cR, 3, .inr (.inr (.inr (.inr (fun i => some (ro i))))))), (ro i, .inr (1, [.ref a, .int (nI n), .int (ch)])), (a, .inl (cI, 60, .inl (f)))]) ⟨hx, hb, hml, hown, hts⟩ (c_refused_p l D cI cP cR h qr qp md r0 r1 r2 r3) (cwV 1 hts gX2_drop_X2_refused rfl rfl rfl (by decide +kernel) ⟨Nat.le_of_ble_eq_true rfl, Nat.le_of_ble_eq_true rfl⟩) hK hP hD hS hA [0] [1, 2, 3] rfl rfl (by decide) (by decide) (by decide) 0 rfl rfl rfl rfl hl.1 rfl (Nat.le_of_ble_eq_true rfl) dX2_drop_23 ⟨Nat.zero_le _, Nat.zero_le _⟩ (fun v1 w1 H locs hq hP hD hS => ?_)
  rcases hq with ⟨rfl, rfl⟩
  have hP : va_P D vwCl ([(qr, .inl (cR, 3, .inr (.inr (.inr (.inr (fun i => some (ro i))))))), (ro i, .inr (1, [.ref a, .int (nI n), .int (ch)])), (a, .inl (cI, 60, .inl (f))), (h, .inr (2, [.ref qr, .ref qp, .int (nI md), .int (r0), .int (r1 + nI 1), .int (r2), .int (r3)]))]) H := hP
  have hD : va_D A ([(qr, .inl (cR, 3, .inr (.inr (.inr (.inr (fun i => some (ro i))))))), (ro i, .inr (1, [.ref a, .int (nI n), .int (ch)])), (a, .inl (cI, 60, .inl (f))), (h, .inr (2, [.ref qr, .ref qp, .int (nI md), .int (r0), .int (r1 + nI 1), .int (r2), .int (r3)]))]) := hD
  refine W.eq (g2 := F0 m 26 ls [.int (-5)]) rfl ?_
  have hP := hP.sub (ws' := [(h, .inr (2, [.ref qr, .ref qp, .int (nI md), .int (r0), .int (r1 + nI 1), .int (r2), .int (r3)])), (qr, .inl (cR, 3, .inr (.inr (.inr (.inr (fun i => some (ro i))))))), (ro i, .inr (1, [.ref a, .int (nI n), .int (ch)])), (a, .inl (cI, 60, .inl (f)))]) [3, 0, 1, 2] rfl
  have hD := hD.sub (ws' := [(h, .inr (2, [.ref qr, .ref qp, .int (nI md), .int (r0), .int (r1 + nI 1), .int (r2), .int (r3)])), (qr, .inl (cR, 3, .inr (.inr (.inr (.inr (fun i => some (ro i))))))), (ro i, .inr (1, [.ref a, .int (nI n), .int (ch)])), (a, .inl (cI, 60, .inl (f)))]) [3, 0, 1, 2] (by decide) rfl
  exact pw_iret hx hb hr (rfl) hlocks dX2_drop_26 hS hP hD (⟨rfl, rfl⟩)
set_option maxHeartbeats 4000000 in
set_option maxRecDepth 100000 in
theorem k_drop (l : Launch) (D : va_G) (cI cP cR : ClassId) (h qr qp md : Nat) (r0 r1 r2 r3 : Int32) (ro : Nat → Nat) (i a n : Nat) (ch : Int32) (f : Nat → Int32) (hi : i < 3) (hn : n ≤ 60) (j : Nat) (hj : j < n) : pw_Mm l yX2_drop wsX2_drop ({ frames := 2, cells := 0, slots := 0, locals := 45 } : Room) D cI cP cR [.ref h, .int (nI i), .int (nI j)] ([(h, .inr (2, [.ref qr, .ref qp, .int (nI md), .int (r0), .int (r1), .int (r2), .int (r3)])), (qr, .inl (cR, 3, .inr (.inr (.inr (.inr (fun i => some (ro i))))))), (ro i, .inr (1, [.ref a, .int (nI n), .int (ch)])), (a, .inl (cI, 60, .inl (f)))]) (fun v w => v = some (.int (f j)) ∧ w = [(h, .inr (2, [.ref qr, .ref qp, .int (nI md), .int (r0), .int (r1), .int (r2), .int (r3)])), (qr, .inl (cR, 3, .inr (.inr (.inr (.inr (fun i => some (ro i))))))), (ro i, .inr (1, [.ref a, .int (nI (n - 1)), .int (ch + nI 1)])), (a, .inl (cI, 60, .inl (clsF f j n)))]) := by
  refine pw_ofm (cc := cX2_drop) (maxL := 4) (ret := (some .int)) (own := RX2) (by decide +kernel) rfl rfl (Nat.le_of_ble_eq_true rfl) ?_
  intro p_ e_ s m bel meth cd A hE hK hP hD hA hS ls hl
  obtain ⟨hx, hb, hr, hml, hown, hts, hlocks⟩ := hE
  have hNW := hK.2
  have hl : lv_has ls 4 [(0, .ref h), (1, .int (nI i)), (2, .int (nI j))] := hl
  refine lv_aload_n hx hb dX2_drop_0 rfl (lv_at hl 0 rfl) ?_
  refine lv_iload_n hx hb dX2_drop_1 rfl (lv_at hl 1 rfl) ?_
  -- c_rowOf_i
  refine pw_cVp (As := [.int (nI i)]) (rest := []) (wc := [(h, .inr (2, [.ref qr, .ref qp, .int (nI md), .int (r0), .int (r1), .int (r2), .int (r3)])), (qr, .inl (cR, 3, .inr (.inr (.inr (.inr (fun i => some (ro i)))))))]) ⟨hx, hb, hml, hown, hts⟩ (c_rowOf_i l D cI cP cR h qr qp md r0 r1 r2 r3 ro i (by omega)) (cwV 1 hts gX2_drop_X2_rowOf rfl rfl rfl (by decide +kernel) ⟨Nat.le_of_ble_eq_true rfl, Nat.le_of_ble_eq_true rfl⟩) hK hP hD [0, 1] rfl (by decide) 0 rfl rfl rfl rfl hl.1 rfl (Nat.le_of_ble_eq_true rfl) dX2_drop_2 ⟨Nat.zero_le _, Nat.zero_le _⟩ ?_
  refine lv_astore_n (lv' := [(3, .ref (ro i)), (0, .ref h), (1, .int (nI i)), (2, .int (nI j))]) hx hb dX2_drop_5 rfl hl (by decide) rfl (fun ls hl => ?_)
  refine lv_aload_n hx hb dX2_drop_6 rfl (lv_at hl 0 rfl) ?_
  refine lv_ifnonnull (tgt := 12) hx hb dX2_drop_7 (by decide) ?_
  refine lv_aload_n hx hb dX2_drop_12 rfl (lv_at hl 0 rfl) ?_
  refine lv_iload_n hx hb dX2_drop_13 rfl (lv_at hl 3 rfl) ?_
  -- c_hasThingAt_t
  refine pw_cVp (As := [.int (nI j)]) (rest := []) (wc := [(ro i, .inr (1, [.ref a, .int (nI n), .int (ch)])), (a, .inl (cI, 60, .inl (f)))]) ⟨hx, hb, hml, hown, hts⟩ (c_hasThingAt_t l D cI cP cR (ro i) a n ch f j (by omega) (by omega)) (cwV 1 hts gX2_drop_X1_hasThingAt rfl rfl rfl (by decide +kernel) ⟨Nat.le_of_ble_eq_true rfl, Nat.le_of_ble_eq_true rfl⟩) hK hP hD [2, 3] rfl (by decide) 0 rfl rfl rfl rfl hl.1 rfl (Nat.le_of_ble_eq_true rfl) dX2_drop_14 ⟨Nat.zero_le _, Nat.zero_le _⟩ ?_
  refine lv_if_ne (tgt := 27) hx hb dX2_drop_17 (by decide) (fun c => ?_) (fun c => absurd c (by decide))
  refine lv_aload_n hx hb dX2_drop_27 rfl (lv_at hl 0 rfl) ?_
  refine lv_iload_n hx hb dX2_drop_28 rfl (lv_at hl 3 rfl) ?_
  -- c_takeAt
  refine pw_cVm (As := [.int (nI j)]) (rest := []) (wc := [(ro i, .inr (1, [.ref a, .int (nI n), .int (ch)])), (a, .inl (cI, 60, .inl (f)))]) (wr := [(h, .inr (2, [.ref qr, .ref qp, .int (nI md), .int (r0), .int (r1), .int (r2), .int (r3)])), (qr, .inl (cR, 3, .inr (.inr (.inr (.inr (fun i => some (ro i)))))))]) ⟨hx, hb, hml, hown, hts⟩ (c_takeAt l D cI cP cR (ro i) a n ch f j (by omega) (by omega)) (cwV 1 hts gX2_drop_X1_takeAt rfl rfl rfl (by decide +kernel) ⟨Nat.le_of_ble_eq_true rfl, Nat.le_of_ble_eq_true rfl⟩) hK hP hD hS hA [2, 3] [0, 1] rfl rfl (by decide) (by decide) (by decide) 0 rfl rfl rfl rfl hl.1 rfl (Nat.le_of_ble_eq_true rfl) dX2_drop_29 ⟨Nat.zero_le _, Nat.zero_le _⟩ (fun v1 w1 H locs hq hP hD hS => ?_)
  rcases hq with ⟨rfl, rfl⟩
  have hP : va_P D vwCl ([(h, .inr (2, [.ref qr, .ref qp, .int (nI md), .int (r0), .int (r1), .int (r2), .int (r3)])), (qr, .inl (cR, 3, .inr (.inr (.inr (.inr (fun i => some (ro i))))))), (ro i, .inr (1, [.ref a, .int (nI (n - 1)), .int (ch + nI 1)])), (a, .inl (cI, 60, .inl (clsF f j n)))]) H := hP
  have hD : va_D A ([(h, .inr (2, [.ref qr, .ref qp, .int (nI md), .int (r0), .int (r1), .int (r2), .int (r3)])), (qr, .inl (cR, 3, .inr (.inr (.inr (.inr (fun i => some (ro i))))))), (ro i, .inr (1, [.ref a, .int (nI (n - 1)), .int (ch + nI 1)])), (a, .inl (cI, 60, .inl (clsF f j n)))]) := hD
  refine W.eq (g2 := F0 m 32 ls [.int (f j)]) rfl ?_
  have hP := hP.sub (ws' := [(h, .inr (2, [.ref qr, .ref qp, .int (nI md), .int (r0), .int (r1), .int (r2), .int (r3)])), (qr, .inl (cR, 3, .inr (.inr (.inr (.inr (fun i => some (ro i))))))), (ro i, .inr (1, [.ref a, .int (nI (n - 1)), .int (ch + nI 1)])), (a, .inl (cI, 60, .inl (clsF f j n)))]) [0, 1, 2, 3] rfl
  have hD := hD.sub (ws' := [(h, .inr (2, [.ref qr, .ref qp, .int (nI md), .int (r0), .int (r1), .int (r2), .int (r3)])), (qr, .inl (cR, 3, .inr (.inr (.inr (.inr (fun i => some (ro i))))))), (ro i, .inr (1, [.ref a, .int (nI (n - 1)), .int (ch + nI 1)])), (a, .inl (cI, 60, .inl (clsF f j n)))]) [0, 1, 2, 3] (by decide) rfl
  exact pw_iret hx hb hr (rfl) hlocks dX2_drop_32 hS hP hD (⟨rfl, rfl⟩)
set_option maxHeartbeats 4000000 in
set_option maxRecDepth 100000 in
theorem k_lay_x (l : Launch) (D : va_G) (cI cP cR : ClassId) (h qr qp md : Nat) (r0 r1 r2 r3 : Int32) (ro : Nat → Nat) (row q name : Int32) (hbad : ¬ ((0 ≤ row ∧ row < nI 3) ∧ (0 ≤ name ∧ name < nI 10))) : pw_Mp l yX2_lay wsX2_lay ({ frames := 2, cells := 0, slots := 0, locals := 45 } : Room) D cI cP cR [.ref h, .int (row), .int (q), .int (name)] ([(h, .inr (2, [.ref qr, .ref qp, .int (nI md), .int (r0), .int (r1), .int (r2), .int (r3)])), (qr, .inl (cR, 3, .inr (.inr (.inr (.inr (fun i => some (ro i)))))))]) (.int (-1)) := by
  refine pw_ofp (cc := cX2_lay) (maxL := 5) (ret := (some .int)) (own := RX2) (by decide +kernel) rfl rfl (Nat.le_of_ble_eq_true rfl) ?_
  intro p_ e_ s m bel meth cd hE hK hP hD ls hl
  obtain ⟨hx, hb, hr, hml, hown, hts, hlocks⟩ := hE
  have hNW := hK.2
  have hl : lv_has ls 5 [(0, .ref h), (1, .int (row)), (2, .int (q)), (3, .int (name))] := hl
  by_cases hx_row : 0 ≤ row ∧ row < nI 3
  · obtain ⟨rj_1, hrj_1, rfl⟩ := pw_inP (by decide) hx_row
    refine lv_aload_n hx hb dX2_lay_0 rfl (lv_at hl 0 rfl) ?_
    refine lv_iload_n hx hb dX2_lay_1 rfl (lv_at hl 1 rfl) ?_
    -- c_rowOf_i
    refine pw_cVp (As := [.int (nI rj_1)]) (rest := []) (wc := [(h, .inr (2, [.ref qr, .ref qp, .int (nI md), .int (r0), .int (r1), .int (r2), .int (r3)])), (qr, .inl (cR, 3, .inr (.inr (.inr (.inr (fun i => some (ro i)))))))]) ⟨hx, hb, hml, hown, hts⟩ (c_rowOf_i l D cI cP cR h qr qp md r0 r1 r2 r3 ro rj_1 (by omega)) (cwV 1 hts gX2_lay_X2_rowOf rfl rfl rfl (by decide +kernel) ⟨Nat.le_of_ble_eq_true rfl, Nat.le_of_ble_eq_true rfl⟩) hK hP hD [0, 1] rfl (by decide) 0 rfl rfl rfl rfl hl.1 rfl (Nat.le_of_ble_eq_true rfl) dX2_lay_2 ⟨Nat.zero_le _, Nat.zero_le _⟩ ?_
    refine lv_astore (lv' := [(4, .ref (ro rj_1)), (0, .ref h), (1, .int (nI rj_1)), (2, .int (q)), (3, .int (name))]) hx hb dX2_lay_5 hl (by decide) rfl (fun ls hl => ?_)
    refine lv_aload hx hb dX2_lay_7 (lv_at hl 0 rfl) ?_
    refine lv_ifnull hx hb dX2_lay_9 ?_
    refine lv_iload_n hx hb dX2_lay_12 rfl (lv_at hl 4 rfl) ?_
    -- c_isName_f
    refine pw_cSp (As := [.int (name)]) (rest := []) ⟨hx, hb, hml, hown, hts⟩ (c_isName_f l D cI cP cR name (fun h => hbad ⟨hx_row, h⟩)) (va_cwS 1 hts gX2_lay_X2_isName rfl rfl rfl (by decide +kernel) ⟨Nat.le_of_ble_eq_true rfl, Nat.le_of_ble_eq_true rfl⟩) hK rfl hl.1 rfl (Nat.le_of_ble_eq_true rfl) dX2_lay_13 ⟨Nat.zero_le _, Nat.zero_le _⟩ ?_
    refine lv_if_ne (tgt := 21) hx hb dX2_lay_16 (by decide) (fun c => absurd c (by decide)) (fun c => ?_)
    refine lv_iconst (v := -1) hx hb dX2_lay_19 (by decide) ?_
    exact pw_piret hx hb hr (rfl) hlocks dX2_lay_20 (rfl)
  · have _h := hx_row
    refine lv_aload_n hx hb dX2_lay_0 rfl (lv_at hl 0 rfl) ?_
    refine lv_iload_n hx hb dX2_lay_1 rfl (lv_at hl 1 rfl) ?_
    -- c_rowOf_n
    refine pw_cVp (As := [.int (row)]) (rest := []) (wc := [(h, .inr (2, [.ref qr, .ref qp, .int (nI md), .int (r0), .int (r1), .int (r2), .int (r3)])), (qr, .inl (cR, 3, .inr (.inr (.inr (.inr (fun i => some (ro i)))))))]) ⟨hx, hb, hml, hown, hts⟩ (c_rowOf_n l D cI cP cR h qr qp md r0 r1 r2 r3 ro row hx_row) (cwV 1 hts gX2_lay_X2_rowOf rfl rfl rfl (by decide +kernel) ⟨Nat.le_of_ble_eq_true rfl, Nat.le_of_ble_eq_true rfl⟩) hK hP hD [0, 1] rfl (by decide) 0 rfl rfl rfl rfl hl.1 rfl (Nat.le_of_ble_eq_true rfl) dX2_lay_2 ⟨Nat.zero_le _, Nat.zero_le _⟩ ?_
    refine lv_astoreN (lv' := [(4, .null), (0, .ref h), (1, .int (row)), (2, .int (q)), (3, .int (name))]) hx hb dX2_lay_5 hl (by decide) rfl (fun ls hl => ?_)
    refine lv_aloadN hx hb dX2_lay_7 (lv_at hl 0 rfl) ?_
    refine lv_ifnullN (tgt := 19) hx hb dX2_lay_9 (by decide) ?_
    refine lv_iconst (v := -1) hx hb dX2_lay_19 (by decide) ?_
    exact pw_piret hx hb hr (rfl) hlocks dX2_lay_20 (rfl)
set_option maxHeartbeats 4000000 in
set_option maxRecDepth 100000 in
theorem k_insert_x (l : Launch) (D : va_G) (cI cP cR : ClassId) (h qr qp md : Nat) (r0 r1 r2 r3 : Int32) (ro : Nat → Nat) (row q name : Int32) (hbad : ¬ ((0 ≤ row ∧ row < nI 3) ∧ (0 ≤ name ∧ name < nI 10))) : pw_Mp l yX2_insert wsX2_insert ({ frames := 2, cells := 0, slots := 0, locals := 45 } : Room) D cI cP cR [.ref h, .int (row), .int (q), .int (name)] ([(h, .inr (2, [.ref qr, .ref qp, .int (nI md), .int (r0), .int (r1), .int (r2), .int (r3)])), (qr, .inl (cR, 3, .inr (.inr (.inr (.inr (fun i => some (ro i)))))))]) (.int (-1)) := by
  refine pw_ofp (cc := cX2_insert) (maxL := 5) (ret := (some .int)) (own := RX2) (by decide +kernel) rfl rfl (Nat.le_of_ble_eq_true rfl) ?_
  intro p_ e_ s m bel meth cd hE hK hP hD ls hl
  obtain ⟨hx, hb, hr, hml, hown, hts, hlocks⟩ := hE
  have hNW := hK.2
  have hl : lv_has ls 5 [(0, .ref h), (1, .int (row)), (2, .int (q)), (3, .int (name))] := hl
  by_cases hx_row : 0 ≤ row ∧ row < nI 3
  · obtain ⟨rj_1, hrj_1, rfl⟩ := pw_inP (by decide) hx_row
    refine lv_aload_n hx hb dX2_insert_0 rfl (lv_at hl 0 rfl) ?_
    refine lv_iload_n hx hb dX2_insert_1 rfl (lv_at hl 1 rfl) ?_
    -- c_rowOf_i
    refine pw_cVp (As := [.int (nI rj_1)]) (rest := []) (wc := [(h, .inr (2, [.ref qr, .ref qp, .int (nI md), .int (r0), .int (r1), .int (r2), .int (r3)])), (qr, .inl (cR, 3, .inr (.inr (.inr (.inr (fun i => some (ro i)))))))]) ⟨hx, hb, hml, hown, hts⟩ (c_rowOf_i l D cI cP cR h qr qp md r0 r1 r2 r3 ro rj_1 (by omega)) (cwV 1 hts gX2_insert_X2_rowOf rfl rfl rfl (by decide +kernel) ⟨Nat.le_of_ble_eq_true rfl, Nat.le_of_ble_eq_true rfl⟩) hK hP hD [0, 1] rfl (by decide) 0 rfl rfl rfl rfl hl.1 rfl (Nat.le_of_ble_eq_true rfl) dX2_insert_2 ⟨Nat.zero_le _, Nat.zero_le _⟩ ?_
    refine lv_astore (lv' := [(4, .ref (ro rj_1)), (0, .ref h), (1, .int (nI rj_1)), (2, .int (q)), (3, .int (name))]) hx hb dX2_insert_5 hl (by decide) rfl (fun ls hl => ?_)
    refine lv_aload hx hb dX2_insert_7 (lv_at hl 0 rfl) ?_
    refine lv_ifnull hx hb dX2_insert_9 ?_
    refine lv_iload_n hx hb dX2_insert_12 rfl (lv_at hl 4 rfl) ?_
    -- c_isName_f
    refine pw_cSp (As := [.int (name)]) (rest := []) ⟨hx, hb, hml, hown, hts⟩ (c_isName_f l D cI cP cR name (fun h => hbad ⟨hx_row, h⟩)) (va_cwS 1 hts gX2_insert_X2_isName rfl rfl rfl (by decide +kernel) ⟨Nat.le_of_ble_eq_true rfl, Nat.le_of_ble_eq_true rfl⟩) hK rfl hl.1 rfl (Nat.le_of_ble_eq_true rfl) dX2_insert_13 ⟨Nat.zero_le _, Nat.zero_le _⟩ ?_
    refine lv_if_ne (tgt := 21) hx hb dX2_insert_16 (by decide) (fun c => absurd c (by decide)) (fun c => ?_)
    refine lv_iconst (v := -1) hx hb dX2_insert_19 (by decide) ?_
    exact pw_piret hx hb hr (rfl) hlocks dX2_insert_20 (rfl)
  · have _h := hx_row
    refine lv_aload_n hx hb dX2_insert_0 rfl (lv_at hl 0 rfl) ?_
    refine lv_iload_n hx hb dX2_insert_1 rfl (lv_at hl 1 rfl) ?_
    -- c_rowOf_n
    refine pw_cVp (As := [.int (row)]) (rest := []) (wc := [(h, .inr (2, [.ref qr, .ref qp, .int (nI md), .int (r0), .int (r1), .int (r2), .int (r3)])), (qr, .inl (cR, 3, .inr (.inr (.inr (.inr (fun i => some (ro i)))))))]) ⟨hx, hb, hml, hown, hts⟩ (c_rowOf_n l D cI cP cR h qr qp md r0 r1 r2 r3 ro row hx_row) (cwV 1 hts gX2_insert_X2_rowOf rfl rfl rfl (by decide +kernel) ⟨Nat.le_of_ble_eq_true rfl, Nat.le_of_ble_eq_true rfl⟩) hK hP hD [0, 1] rfl (by decide) 0 rfl rfl rfl rfl hl.1 rfl (Nat.le_of_ble_eq_true rfl) dX2_insert_2 ⟨Nat.zero_le _, Nat.zero_le _⟩ ?_
    refine lv_astoreN (lv' := [(4, .null), (0, .ref h), (1, .int (row)), (2, .int (q)), (3, .int (name))]) hx hb dX2_insert_5 hl (by decide) rfl (fun ls hl => ?_)
    refine lv_aloadN hx hb dX2_insert_7 (lv_at hl 0 rfl) ?_
    refine lv_ifnullN (tgt := 19) hx hb dX2_insert_9 (by decide) ?_
    refine lv_iconst (v := -1) hx hb dX2_insert_19 (by decide) ?_
    exact pw_piret hx hb hr (rfl) hlocks dX2_insert_20 (rfl)
set_option maxHeartbeats 4000000 in
set_option maxRecDepth 100000 in
theorem k_lay_p (l : Launch) (D : va_G) (cI cP cR : ClassId) (h qr qp md : Nat) (r0 r1 r2 r3 : Int32) (ro : Nat → Nat) (i a n : Nat) (ch : Int32) (f : Nat → Int32) (hi : i < 3) (hn : n ≤ 60) (q : Int32) (hq : ¬ (0 ≤ q ∧ q < nI n)) (nm : Nat) (hnm : nm < 10) : pw_Mm l yX2_lay wsX2_lay ({ frames := 2, cells := 0, slots := 0, locals := 45 } : Room) D cI cP cR [.ref h, .int (nI i), .int (q), .int (nI nm)] ([(h, .inr (2, [.ref qr, .ref qp, .int (nI md), .int (r0), .int (r1), .int (r2), .int (r3)])), (qr, .inl (cR, 3, .inr (.inr (.inr (.inr (fun i => some (ro i))))))), (ro i, .inr (1, [.ref a, .int (nI n), .int (ch)])), (a, .inl (cI, 60, .inl (f)))]) (fun v w => v = some (.int (-5)) ∧ w = [(h, .inr (2, [.ref qr, .ref qp, .int (nI md), .int (r0), .int (r1 + nI 1), .int (r2), .int (r3)])), (qr, .inl (cR, 3, .inr (.inr (.inr (.inr (fun i => some (ro i))))))), (ro i, .inr (1, [.ref a, .int (nI n), .int (ch)])), (a, .inl (cI, 60, .inl (f)))]) := by
  refine pw_ofm (cc := cX2_lay) (maxL := 5) (ret := (some .int)) (own := RX2) (by decide +kernel) rfl rfl (Nat.le_of_ble_eq_true rfl) ?_
  intro p_ e_ s m bel meth cd A hE hK hP hD hA hS ls hl
  obtain ⟨hx, hb, hr, hml, hown, hts, hlocks⟩ := hE
  have hNW := hK.2
  have hl : lv_has ls 5 [(0, .ref h), (1, .int (nI i)), (2, .int (q)), (3, .int (nI nm))] := hl
  refine lv_aload_n hx hb dX2_lay_0 rfl (lv_at hl 0 rfl) ?_
  refine lv_iload_n hx hb dX2_lay_1 rfl (lv_at hl 1 rfl) ?_
  -- c_rowOf_i
  refine pw_cVp (As := [.int (nI i)]) (rest := []) (wc := [(h, .inr (2, [.ref qr, .ref qp, .int (nI md), .int (r0), .int (r1), .int (r2), .int (r3)])), (qr, .inl (cR, 3, .inr (.inr (.inr (.inr (fun i => some (ro i)))))))]) ⟨hx, hb, hml, hown, hts⟩ (c_rowOf_i l D cI cP cR h qr qp md r0 r1 r2 r3 ro i (by omega)) (cwV 1 hts gX2_lay_X2_rowOf rfl rfl rfl (by decide +kernel) ⟨Nat.le_of_ble_eq_true rfl, Nat.le_of_ble_eq_true rfl⟩) hK hP hD [0, 1] rfl (by decide) 0 rfl rfl rfl rfl hl.1 rfl (Nat.le_of_ble_eq_true rfl) dX2_lay_2 ⟨Nat.zero_le _, Nat.zero_le _⟩ ?_
  refine lv_astore (lv' := [(4, .ref (ro i)), (0, .ref h), (1, .int (nI i)), (2, .int (q)), (3, .int (nI nm))]) hx hb dX2_lay_5 hl (by decide) rfl (fun ls hl => ?_)
  refine lv_aload hx hb dX2_lay_7 (lv_at hl 0 rfl) ?_
  refine lv_ifnull hx hb dX2_lay_9 ?_
  refine lv_iload_n hx hb dX2_lay_12 rfl (lv_at hl 4 rfl) ?_
  -- c_isName_t
  refine pw_cSp (As := [.int (nI nm)]) (rest := []) ⟨hx, hb, hml, hown, hts⟩ (c_isName_t l D cI cP cR nm (by omega)) (va_cwS 1 hts gX2_lay_X2_isName rfl rfl rfl (by decide +kernel) ⟨Nat.le_of_ble_eq_true rfl, Nat.le_of_ble_eq_true rfl⟩) hK rfl hl.1 rfl (Nat.le_of_ble_eq_true rfl) dX2_lay_13 ⟨Nat.zero_le _, Nat.zero_le _⟩ ?_
  refine lv_if_ne (tgt := 21) hx hb dX2_lay_16 (by decide) (fun c => ?_) (fun c => absurd c (by decide))
  refine lv_aload hx hb dX2_lay_21 (lv_at hl 0 rfl) ?_
  refine lv_iload_n hx hb dX2_lay_23 rfl (lv_at hl 3 rfl) ?_
  -- c_hasThingAt_f
  refine pw_cVp (As := [.int (q)]) (rest := []) (wc := [(ro i, .inr (1, [.ref a, .int (nI n), .int (ch)])), (a, .inl (cI, 60, .inl (f)))]) ⟨hx, hb, hml, hown, hts⟩ (c_hasThingAt_f l D cI cP cR (ro i) a n ch f q hq) (cwV 1 hts gX2_lay_X1_hasThingAt rfl rfl rfl (by decide +kernel) ⟨Nat.le_of_ble_eq_true rfl, Nat.le_of_ble_eq_true rfl⟩) hK hP hD [2, 3] rfl (by decide) 0 rfl rfl rfl rfl hl.1 rfl (Nat.le_of_ble_eq_true rfl) dX2_lay_24 ⟨Nat.zero_le _, Nat.zero_le _⟩ ?_
  refine lv_if_ne (tgt := 37) hx hb dX2_lay_27 (by decide) (fun c => absurd c (by decide)) (fun c => ?_)
  refine lv_aload_n hx hb dX2_lay_30 rfl (lv_at hl 1 rfl) ?_
  refine lv_bipush (v := -5) hx hb dX2_lay_31 (by decide) ?_
  -- c_refused_p
  refine pw_cVm (As := [.int (-5)]) (rest := []) (wc := [(h, .inr (2, [.ref qr, .ref qp, .int (nI md), .int (r0), .int (r1), .int (r2), .int (r3)]))]) (wr := [(qr, .inl (cR, 3, .inr (.inr (.inr (.inr (fun i => some (ro i))))))), (ro i, .inr (1, [.ref a, .int (nI n), .int (ch)])), (a, .inl (cI, 60, .inl (f)))]) ⟨hx, hb, hml, hown, hts⟩ (c_refused_p l D cI cP cR h qr qp md r0 r1 r2 r3) (cwV 1 hts gX2_lay_X2_refused rfl rfl rfl (by decide +kernel) ⟨Nat.le_of_ble_eq_true rfl, Nat.le_of_ble_eq_true rfl⟩) hK hP hD hS hA [0] [1, 2, 3] rfl rfl (by decide) (by decide) (by decide) 0 rfl rfl rfl rfl hl.1 rfl (Nat.le_of_ble_eq_true rfl) dX2_lay_33 ⟨Nat.zero_le _, Nat.zero_le _⟩ (fun v1 w1 H locs hq hP hD hS => ?_)
  rcases hq with ⟨rfl, rfl⟩
  have hP : va_P D vwCl ([(qr, .inl (cR, 3, .inr (.inr (.inr (.inr (fun i => some (ro i))))))), (ro i, .inr (1, [.ref a, .int (nI n), .int (ch)])), (a, .inl (cI, 60, .inl (f))), (h, .inr (2, [.ref qr, .ref qp, .int (nI md), .int (r0), .int (r1 + nI 1), .int (r2), .int (r3)]))]) H := hP
  have hD : va_D A ([(qr, .inl (cR, 3, .inr (.inr (.inr (.inr (fun i => some (ro i))))))), (ro i, .inr (1, [.ref a, .int (nI n), .int (ch)])), (a, .inl (cI, 60, .inl (f))), (h, .inr (2, [.ref qr, .ref qp, .int (nI md), .int (r0), .int (r1 + nI 1), .int (r2), .int (r3)]))]) := hD
  refine W.eq (g2 := F0 m 36 ls [.int (-5)]) rfl ?_
  have hP := hP.sub (ws' := [(h, .inr (2, [.ref qr, .ref qp, .int (nI md), .int (r0), .int (r1 + nI 1), .int (r2), .int (r3)])), (qr, .inl (cR, 3, .inr (.inr (.inr (.inr (fun i => some (ro i))))))), (ro i, .inr (1, [.ref a, .int (nI n), .int (ch)])), (a, .inl (cI, 60, .inl (f)))]) [3, 0, 1, 2] rfl
  have hD := hD.sub (ws' := [(h, .inr (2, [.ref qr, .ref qp, .int (nI md), .int (r0), .int (r1 + nI 1), .int (r2), .int (r3)])), (qr, .inl (cR, 3, .inr (.inr (.inr (.inr (fun i => some (ro i))))))), (ro i, .inr (1, [.ref a, .int (nI n), .int (ch)])), (a, .inl (cI, 60, .inl (f)))]) [3, 0, 1, 2] (by decide) rfl
  exact pw_iret hx hb hr (rfl) hlocks dX2_lay_36 hS hP hD (⟨rfl, rfl⟩)
set_option maxHeartbeats 4000000 in
set_option maxRecDepth 100000 in
theorem k_lay (l : Launch) (D : va_G) (cI cP cR : ClassId) (h qr qp md : Nat) (r0 r1 r2 r3 : Int32) (ro : Nat → Nat) (i a n : Nat) (ch : Int32) (f : Nat → Int32) (hi : i < 3) (hn : n ≤ 60) (j nm : Nat) (hj : j < n) (hnm : nm < 10) : pw_Mm l yX2_lay wsX2_lay ({ frames := 2, cells := 0, slots := 0, locals := 45 } : Room) D cI cP cR [.ref h, .int (nI i), .int (nI j), .int (nI nm)] ([(h, .inr (2, [.ref qr, .ref qp, .int (nI md), .int (r0), .int (r1), .int (r2), .int (r3)])), (qr, .inl (cR, 3, .inr (.inr (.inr (.inr (fun i => some (ro i))))))), (ro i, .inr (1, [.ref a, .int (nI n), .int (ch)])), (a, .inl (cI, 60, .inl (f)))]) (fun v w => v = some (.int (f j)) ∧ w = [(h, .inr (2, [.ref qr, .ref qp, .int (nI (md + 1)), .int (r0), .int (r1), .int (r2), .int (r3)])), (qr, .inl (cR, 3, .inr (.inr (.inr (.inr (fun i => some (ro i))))))), (ro i, .inr (1, [.ref a, .int (nI n), .int (ch)])), (a, .inl (cI, 60, .inl (upd f j (nI ((md * 10) + nm)))))]) := by
  refine pw_ofm (cc := cX2_lay) (maxL := 5) (ret := (some .int)) (own := RX2) (by decide +kernel) rfl rfl (Nat.le_of_ble_eq_true rfl) ?_
  intro p_ e_ s m bel meth cd A hE hK hP hD hA hS ls hl
  obtain ⟨hx, hb, hr, hml, hown, hts, hlocks⟩ := hE
  have hNW := hK.2
  have hl : lv_has ls 5 [(0, .ref h), (1, .int (nI i)), (2, .int (nI j)), (3, .int (nI nm))] := hl
  refine lv_aload_n hx hb dX2_lay_0 rfl (lv_at hl 0 rfl) ?_
  refine lv_iload_n hx hb dX2_lay_1 rfl (lv_at hl 1 rfl) ?_
  -- c_rowOf_i
  refine pw_cVp (As := [.int (nI i)]) (rest := []) (wc := [(h, .inr (2, [.ref qr, .ref qp, .int (nI md), .int (r0), .int (r1), .int (r2), .int (r3)])), (qr, .inl (cR, 3, .inr (.inr (.inr (.inr (fun i => some (ro i)))))))]) ⟨hx, hb, hml, hown, hts⟩ (c_rowOf_i l D cI cP cR h qr qp md r0 r1 r2 r3 ro i (by omega)) (cwV 1 hts gX2_lay_X2_rowOf rfl rfl rfl (by decide +kernel) ⟨Nat.le_of_ble_eq_true rfl, Nat.le_of_ble_eq_true rfl⟩) hK hP hD [0, 1] rfl (by decide) 0 rfl rfl rfl rfl hl.1 rfl (Nat.le_of_ble_eq_true rfl) dX2_lay_2 ⟨Nat.zero_le _, Nat.zero_le _⟩ ?_
  refine lv_astore (lv' := [(4, .ref (ro i)), (0, .ref h), (1, .int (nI i)), (2, .int (nI j)), (3, .int (nI nm))]) hx hb dX2_lay_5 hl (by decide) rfl (fun ls hl => ?_)
  refine lv_aload hx hb dX2_lay_7 (lv_at hl 0 rfl) ?_
  refine lv_ifnull hx hb dX2_lay_9 ?_
  refine lv_iload_n hx hb dX2_lay_12 rfl (lv_at hl 4 rfl) ?_
  -- c_isName_t
  refine pw_cSp (As := [.int (nI nm)]) (rest := []) ⟨hx, hb, hml, hown, hts⟩ (c_isName_t l D cI cP cR nm (by omega)) (va_cwS 1 hts gX2_lay_X2_isName rfl rfl rfl (by decide +kernel) ⟨Nat.le_of_ble_eq_true rfl, Nat.le_of_ble_eq_true rfl⟩) hK rfl hl.1 rfl (Nat.le_of_ble_eq_true rfl) dX2_lay_13 ⟨Nat.zero_le _, Nat.zero_le _⟩ ?_
  refine lv_if_ne (tgt := 21) hx hb dX2_lay_16 (by decide) (fun c => ?_) (fun c => absurd c (by decide))
  refine lv_aload hx hb dX2_lay_21 (lv_at hl 0 rfl) ?_
  refine lv_iload_n hx hb dX2_lay_23 rfl (lv_at hl 3 rfl) ?_
  -- c_hasThingAt_t
  refine pw_cVp (As := [.int (nI j)]) (rest := []) (wc := [(ro i, .inr (1, [.ref a, .int (nI n), .int (ch)])), (a, .inl (cI, 60, .inl (f)))]) ⟨hx, hb, hml, hown, hts⟩ (c_hasThingAt_t l D cI cP cR (ro i) a n ch f j (by omega) (by omega)) (cwV 1 hts gX2_lay_X1_hasThingAt rfl rfl rfl (by decide +kernel) ⟨Nat.le_of_ble_eq_true rfl, Nat.le_of_ble_eq_true rfl⟩) hK hP hD [2, 3] rfl (by decide) 0 rfl rfl rfl rfl hl.1 rfl (Nat.le_of_ble_eq_true rfl) dX2_lay_24 ⟨Nat.zero_le _, Nat.zero_le _⟩ ?_
  refine lv_if_ne (tgt := 37) hx hb dX2_lay_27 (by decide) (fun c => ?_) (fun c => absurd c (by decide))
  refine lv_aload hx hb dX2_lay_37 (lv_at hl 0 rfl) ?_
  refine lv_iload_n hx hb dX2_lay_39 rfl (lv_at hl 3 rfl) ?_
  refine lv_aload_n hx hb dX2_lay_40 rfl (lv_at hl 1 rfl) ?_
  refine lv_iload_n hx hb dX2_lay_41 rfl (lv_at hl 4 rfl) ?_
  -- c_newThing
  refine pw_cVm (As := [.int (nI nm)]) (rest := [.int (nI j), .ref (ro i)]) (wc := [(h, .inr (2, [.ref qr, .ref qp, .int (nI md), .int (r0), .int (r1), .int (r2), .int (r3)]))]) (wr := [(qr, .inl (cR, 3, .inr (.inr (.inr (.inr (fun i => some (ro i))))))), (ro i, .inr (1, [.ref a, .int (nI n), .int (ch)])), (a, .inl (cI, 60, .inl (f)))]) ⟨hx, hb, hml, hown, hts⟩ (c_newThing l D cI cP cR h qr qp md r0 r1 r2 r3 nm) (cwV 1 hts gX2_lay_X2_newThing rfl rfl rfl (by decide +kernel) ⟨Nat.le_of_ble_eq_true rfl, Nat.le_of_ble_eq_true rfl⟩) hK hP hD hS hA [0] [1, 2, 3] rfl rfl (by decide) (by decide) (by decide) 0 rfl rfl rfl rfl hl.1 rfl (Nat.le_of_ble_eq_true rfl) dX2_lay_42 ⟨Nat.zero_le _, Nat.zero_le _⟩ (fun v1 w1 H locs hq hP hD hS => ?_)
  rcases hq with ⟨rfl, rfl⟩
  have hP : va_P D vwCl ([(qr, .inl (cR, 3, .inr (.inr (.inr (.inr (fun i => some (ro i))))))), (ro i, .inr (1, [.ref a, .int (nI n), .int (ch)])), (a, .inl (cI, 60, .inl (f))), (h, .inr (2, [.ref qr, .ref qp, .int (nI (md + 1)), .int (r0), .int (r1), .int (r2), .int (r3)]))]) H := hP
  have hD : va_D A ([(qr, .inl (cR, 3, .inr (.inr (.inr (.inr (fun i => some (ro i))))))), (ro i, .inr (1, [.ref a, .int (nI n), .int (ch)])), (a, .inl (cI, 60, .inl (f))), (h, .inr (2, [.ref qr, .ref qp, .int (nI (md + 1)), .int (r0), .int (r1), .int (r2), .int (r3)]))]) := hD
  refine W.eq (g2 := F0 m 45 ls [.int (nI ((md * 10) + nm)), .int (nI j), .ref (ro i)]) rfl ?_
  -- c_layAt
  refine pw_cVm (As := [.int (nI j), .int (nI ((md * 10) + nm))]) (rest := []) (wc := [(ro i, .inr (1, [.ref a, .int (nI n), .int (ch)])), (a, .inl (cI, 60, .inl (f)))]) (wr := [(qr, .inl (cR, 3, .inr (.inr (.inr (.inr (fun i => some (ro i))))))), (h, .inr (2, [.ref qr, .ref qp, .int (nI (md + 1)), .int (r0), .int (r1), .int (r2), .int (r3)]))]) ⟨hx, hb, hml, hown, hts⟩ (c_layAt l D cI cP cR (ro i) a n ch f j (nI ((md * 10) + nm)) (by omega)) (cwV 2 hts gX2_lay_X1_layAt rfl rfl rfl (by decide +kernel) ⟨Nat.le_of_ble_eq_true rfl, Nat.le_of_ble_eq_true rfl⟩) hK hP hD hS hA [1, 2] [0, 3] rfl rfl (by decide) (by decide) (by decide) 0 rfl rfl rfl rfl hl.1 rfl (Nat.le_of_ble_eq_true rfl) dX2_lay_45 ⟨Nat.zero_le _, Nat.zero_le _⟩ (fun v1 w1 H locs hq hP hD hS => ?_)
  rcases hq with ⟨rfl, rfl⟩
  have hP : va_P D vwCl ([(qr, .inl (cR, 3, .inr (.inr (.inr (.inr (fun i => some (ro i))))))), (h, .inr (2, [.ref qr, .ref qp, .int (nI (md + 1)), .int (r0), .int (r1), .int (r2), .int (r3)])), (ro i, .inr (1, [.ref a, .int (nI n), .int (ch)])), (a, .inl (cI, 60, .inl (upd f j (nI ((md * 10) + nm)))))]) H := hP
  have hD : va_D A ([(qr, .inl (cR, 3, .inr (.inr (.inr (.inr (fun i => some (ro i))))))), (h, .inr (2, [.ref qr, .ref qp, .int (nI (md + 1)), .int (r0), .int (r1), .int (r2), .int (r3)])), (ro i, .inr (1, [.ref a, .int (nI n), .int (ch)])), (a, .inl (cI, 60, .inl (upd f j (nI ((md * 10) + nm)))))]) := hD
  refine W.eq (g2 := F0 m 48 ls [.int (f j)]) rfl ?_
  have hP := hP.sub (ws' := [(h, .inr (2, [.ref qr, .ref qp, .int (nI (md + 1)), .int (r0), .int (r1), .int (r2), .int (r3)])), (qr, .inl (cR, 3, .inr (.inr (.inr (.inr (fun i => some (ro i))))))), (ro i, .inr (1, [.ref a, .int (nI n), .int (ch)])), (a, .inl (cI, 60, .inl (upd f j (nI ((md * 10) + nm)))))]) [1, 0, 2, 3] rfl
  have hD := hD.sub (ws' := [(h, .inr (2, [.ref qr, .ref qp, .int (nI (md + 1)), .int (r0), .int (r1), .int (r2), .int (r3)])), (qr, .inl (cR, 3, .inr (.inr (.inr (.inr (fun i => some (ro i))))))), (ro i, .inr (1, [.ref a, .int (nI n), .int (ch)])), (a, .inl (cI, 60, .inl (upd f j (nI ((md * 10) + nm)))))]) [1, 0, 2, 3] (by decide) rfl
  exact pw_iret hx hb hr (rfl) hlocks dX2_lay_48 hS hP hD (⟨rfl, rfl⟩)
set_option maxHeartbeats 4000000 in
set_option maxRecDepth 100000 in
theorem k_insert_f (l : Launch) (D : va_G) (cI cP cR : ClassId) (h qr qp md : Nat) (r0 r1 r2 r3 : Int32) (ro : Nat → Nat) (i a n : Nat) (ch : Int32) (f : Nat → Int32) (hi : i < 3) (hn : n ≤ 60) (q : Int32) (nm : Nat) (hnm : nm < 10) (hf : n = 60) : pw_Mp l yX2_insert wsX2_insert ({ frames := 2, cells := 0, slots := 0, locals := 45 } : Room) D cI cP cR [.ref h, .int (nI i), .int (q), .int (nI nm)] ([(h, .inr (2, [.ref qr, .ref qp, .int (nI md), .int (r0), .int (r1), .int (r2), .int (r3)])), (qr, .inl (cR, 3, .inr (.inr (.inr (.inr (fun i => some (ro i))))))), (ro i, .inr (1, [.ref a, .int (nI n), .int (ch)])), (a, .inl (cI, 60, .inl (f)))]) (.int (-3)) := by
  refine pw_ofp (cc := cX2_insert) (maxL := 5) (ret := (some .int)) (own := RX2) (by decide +kernel) rfl rfl (Nat.le_of_ble_eq_true rfl) ?_
  intro p_ e_ s m bel meth cd hE hK hP hD ls hl
  obtain ⟨hx, hb, hr, hml, hown, hts, hlocks⟩ := hE
  have hNW := hK.2
  have hl : lv_has ls 5 [(0, .ref h), (1, .int (nI i)), (2, .int (q)), (3, .int (nI nm))] := hl
  refine lv_aload_n hx hb dX2_insert_0 rfl (lv_at hl 0 rfl) ?_
  refine lv_iload_n hx hb dX2_insert_1 rfl (lv_at hl 1 rfl) ?_
  -- c_rowOf_i
  refine pw_cVp (As := [.int (nI i)]) (rest := []) (wc := [(h, .inr (2, [.ref qr, .ref qp, .int (nI md), .int (r0), .int (r1), .int (r2), .int (r3)])), (qr, .inl (cR, 3, .inr (.inr (.inr (.inr (fun i => some (ro i)))))))]) ⟨hx, hb, hml, hown, hts⟩ (c_rowOf_i l D cI cP cR h qr qp md r0 r1 r2 r3 ro i (by omega)) (cwV 1 hts gX2_insert_X2_rowOf rfl rfl rfl (by decide +kernel) ⟨Nat.le_of_ble_eq_true rfl, Nat.le_of_ble_eq_true rfl⟩) hK hP hD [0, 1] rfl (by decide) 0 rfl rfl rfl rfl hl.1 rfl (Nat.le_of_ble_eq_true rfl) dX2_insert_2 ⟨Nat.zero_le _, Nat.zero_le _⟩ ?_
  refine lv_astore (lv' := [(4, .ref (ro i)), (0, .ref h), (1, .int (nI i)), (2, .int (q)), (3, .int (nI nm))]) hx hb dX2_insert_5 hl (by decide) rfl (fun ls hl => ?_)
  refine lv_aload hx hb dX2_insert_7 (lv_at hl 0 rfl) ?_
  refine lv_ifnull hx hb dX2_insert_9 ?_
  refine lv_iload_n hx hb dX2_insert_12 rfl (lv_at hl 4 rfl) ?_
  -- c_isName_t
  refine pw_cSp (As := [.int (nI nm)]) (rest := []) ⟨hx, hb, hml, hown, hts⟩ (c_isName_t l D cI cP cR nm (by omega)) (va_cwS 1 hts gX2_insert_X2_isName rfl rfl rfl (by decide +kernel) ⟨Nat.le_of_ble_eq_true rfl, Nat.le_of_ble_eq_true rfl⟩) hK rfl hl.1 rfl (Nat.le_of_ble_eq_true rfl) dX2_insert_13 ⟨Nat.zero_le _, Nat.zero_le _⟩ ?_
  refine lv_if_ne (tgt := 21) hx hb dX2_insert_16 (by decide) (fun c => ?_) (fun c => absurd c (by decide))
  refine lv_aload hx hb dX2_insert_21 (lv_at hl 0 rfl) ?_
  refine lv_iconst (v := nI 1) hx hb dX2_insert_23 (by decide) ?_
  -- c_hasRoomFor_f
  refine pw_cVp (As := [.int (nI 1)]) (rest := []) (wc := [(ro i, .inr (1, [.ref a, .int (nI n), .int (ch)])), (a, .inl (cI, 60, .inl (f)))]) ⟨hx, hb, hml, hown, hts⟩ (c_hasRoomFor_f l D cI cP cR (ro i) a n ch f 1 (by omega) (by omega) (by omega)) (cwV 1 hts gX2_insert_X1_hasRoomFor rfl rfl rfl (by decide +kernel) ⟨Nat.le_of_ble_eq_true rfl, Nat.le_of_ble_eq_true rfl⟩) hK hP hD [2, 3] rfl (by decide) 0 rfl rfl rfl rfl hl.1 rfl (Nat.le_of_ble_eq_true rfl) dX2_insert_24 ⟨Nat.zero_le _, Nat.zero_le _⟩ ?_
  refine lv_if_ne (tgt := 33) hx hb dX2_insert_27 (by decide) (fun c => absurd c (by decide)) (fun c => ?_)
  refine lv_bipush (v := -3) hx hb dX2_insert_30 (by decide) ?_
  exact pw_piret hx hb hr (rfl) hlocks dX2_insert_32 (rfl)
set_option maxHeartbeats 4000000 in
set_option maxRecDepth 100000 in
theorem k_insert_p (l : Launch) (D : va_G) (cI cP cR : ClassId) (h qr qp md : Nat) (r0 r1 r2 r3 : Int32) (ro : Nat → Nat) (i a n : Nat) (ch : Int32) (f : Nat → Int32) (hi : i < 3) (hn : n ≤ 60) (q : Int32) (hq : ¬ (0 ≤ q ∧ q ≤ nI n)) (nm : Nat) (hnm : nm < 10) (hf : n < 60) : pw_Mm l yX2_insert wsX2_insert ({ frames := 2, cells := 0, slots := 0, locals := 45 } : Room) D cI cP cR [.ref h, .int (nI i), .int (q), .int (nI nm)] ([(h, .inr (2, [.ref qr, .ref qp, .int (nI md), .int (r0), .int (r1), .int (r2), .int (r3)])), (qr, .inl (cR, 3, .inr (.inr (.inr (.inr (fun i => some (ro i))))))), (ro i, .inr (1, [.ref a, .int (nI n), .int (ch)])), (a, .inl (cI, 60, .inl (f)))]) (fun v w => v = some (.int (-5)) ∧ w = [(h, .inr (2, [.ref qr, .ref qp, .int (nI md), .int (r0), .int (r1 + nI 1), .int (r2), .int (r3)])), (qr, .inl (cR, 3, .inr (.inr (.inr (.inr (fun i => some (ro i))))))), (ro i, .inr (1, [.ref a, .int (nI n), .int (ch)])), (a, .inl (cI, 60, .inl (f)))]) := by
  refine pw_ofm (cc := cX2_insert) (maxL := 5) (ret := (some .int)) (own := RX2) (by decide +kernel) rfl rfl (Nat.le_of_ble_eq_true rfl) ?_
  intro p_ e_ s m bel meth cd A hE hK hP hD hA hS ls hl
  obtain ⟨hx, hb, hr, hml, hown, hts, hlocks⟩ := hE
  have hNW := hK.2
  have hl : lv_has ls 5 [(0, .ref h), (1, .int (nI i)), (2, .int (q)), (3, .int (nI nm))] := hl
  refine lv_aload_n hx hb dX2_insert_0 rfl (lv_at hl 0 rfl) ?_
  refine lv_iload_n hx hb dX2_insert_1 rfl (lv_at hl 1 rfl) ?_
  -- c_rowOf_i
  refine pw_cVp (As := [.int (nI i)]) (rest := []) (wc := [(h, .inr (2, [.ref qr, .ref qp, .int (nI md), .int (r0), .int (r1), .int (r2), .int (r3)])), (qr, .inl (cR, 3, .inr (.inr (.inr (.inr (fun i => some (ro i)))))))]) ⟨hx, hb, hml, hown, hts⟩ (c_rowOf_i l D cI cP cR h qr qp md r0 r1 r2 r3 ro i (by omega)) (cwV 1 hts gX2_insert_X2_rowOf rfl rfl rfl (by decide +kernel) ⟨Nat.le_of_ble_eq_true rfl, Nat.le_of_ble_eq_true rfl⟩) hK hP hD [0, 1] rfl (by decide) 0 rfl rfl rfl rfl hl.1 rfl (Nat.le_of_ble_eq_true rfl) dX2_insert_2 ⟨Nat.zero_le _, Nat.zero_le _⟩ ?_
  refine lv_astore (lv' := [(4, .ref (ro i)), (0, .ref h), (1, .int (nI i)), (2, .int (q)), (3, .int (nI nm))]) hx hb dX2_insert_5 hl (by decide) rfl (fun ls hl => ?_)
  refine lv_aload hx hb dX2_insert_7 (lv_at hl 0 rfl) ?_
  refine lv_ifnull hx hb dX2_insert_9 ?_
  refine lv_iload_n hx hb dX2_insert_12 rfl (lv_at hl 4 rfl) ?_
  -- c_isName_t
  refine pw_cSp (As := [.int (nI nm)]) (rest := []) ⟨hx, hb, hml, hown, hts⟩ (c_isName_t l D cI cP cR nm (by omega)) (va_cwS 1 hts gX2_insert_X2_isName rfl rfl rfl (by decide +kernel) ⟨Nat.le_of_ble_eq_true rfl, Nat.le_of_ble_eq_true rfl⟩) hK rfl hl.1 rfl (Nat.le_of_ble_eq_true rfl) dX2_insert_13 ⟨Nat.zero_le _, Nat.zero_le _⟩ ?_
  refine lv_if_ne (tgt := 21) hx hb dX2_insert_16 (by decide) (fun c => ?_) (fun c => absurd c (by decide))
  refine lv_aload hx hb dX2_insert_21 (lv_at hl 0 rfl) ?_
  refine lv_iconst (v := nI 1) hx hb dX2_insert_23 (by decide) ?_
  -- c_hasRoomFor_t
  refine pw_cVp (As := [.int (nI 1)]) (rest := []) (wc := [(ro i, .inr (1, [.ref a, .int (nI n), .int (ch)])), (a, .inl (cI, 60, .inl (f)))]) ⟨hx, hb, hml, hown, hts⟩ (c_hasRoomFor_t l D cI cP cR (ro i) a n ch f 1 (by omega)) (cwV 1 hts gX2_insert_X1_hasRoomFor rfl rfl rfl (by decide +kernel) ⟨Nat.le_of_ble_eq_true rfl, Nat.le_of_ble_eq_true rfl⟩) hK hP hD [2, 3] rfl (by decide) 0 rfl rfl rfl rfl hl.1 rfl (Nat.le_of_ble_eq_true rfl) dX2_insert_24 ⟨Nat.zero_le _, Nat.zero_le _⟩ ?_
  refine lv_if_ne (tgt := 33) hx hb dX2_insert_27 (by decide) (fun c => ?_) (fun c => absurd c (by decide))
  refine lv_aload hx hb dX2_insert_33 (lv_at hl 0 rfl) ?_
  refine lv_iload_n hx hb dX2_insert_35 rfl (lv_at hl 3 rfl) ?_
  -- c_canPutAt_f
  refine pw_cVp (As := [.int (q)]) (rest := []) (wc := [(ro i, .inr (1, [.ref a, .int (nI n), .int (ch)])), (a, .inl (cI, 60, .inl (f)))]) ⟨hx, hb, hml, hown, hts⟩ (c_canPutAt_f l D cI cP cR (ro i) a n ch f q hq) (cwV 1 hts gX2_insert_X1_canPutAt rfl rfl rfl (by decide +kernel) ⟨Nat.le_of_ble_eq_true rfl, Nat.le_of_ble_eq_true rfl⟩) hK hP hD [2, 3] rfl (by decide) 0 rfl rfl rfl rfl hl.1 rfl (Nat.le_of_ble_eq_true rfl) dX2_insert_36 ⟨Nat.zero_le _, Nat.zero_le _⟩ ?_
  refine lv_if_ne (tgt := 49) hx hb dX2_insert_39 (by decide) (fun c => absurd c (by decide)) (fun c => ?_)
  refine lv_aload_n hx hb dX2_insert_42 rfl (lv_at hl 1 rfl) ?_
  refine lv_bipush (v := -5) hx hb dX2_insert_43 (by decide) ?_
  -- c_refused_p
  refine pw_cVm (As := [.int (-5)]) (rest := []) (wc := [(h, .inr (2, [.ref qr, .ref qp, .int (nI md), .int (r0), .int (r1), .int (r2), .int (r3)]))]) (wr := [(qr, .inl (cR, 3, .inr (.inr (.inr (.inr (fun i => some (ro i))))))), (ro i, .inr (1, [.ref a, .int (nI n), .int (ch)])), (a, .inl (cI, 60, .inl (f)))]) ⟨hx, hb, hml, hown, hts⟩ (c_refused_p l D cI cP cR h qr qp md r0 r1 r2 r3) (cwV 1 hts gX2_insert_X2_refused rfl rfl rfl (by decide +kernel) ⟨Nat.le_of_ble_eq_true rfl, Nat.le_of_ble_eq_true rfl⟩) hK hP hD hS hA [0] [1, 2, 3] rfl rfl (by decide) (by decide) (by decide) 0 rfl rfl rfl rfl hl.1 rfl (Nat.le_of_ble_eq_true rfl) dX2_insert_45 ⟨Nat.zero_le _, Nat.zero_le _⟩ (fun v1 w1 H locs hq hP hD hS => ?_)
  rcases hq with ⟨rfl, rfl⟩
  have hP : va_P D vwCl ([(qr, .inl (cR, 3, .inr (.inr (.inr (.inr (fun i => some (ro i))))))), (ro i, .inr (1, [.ref a, .int (nI n), .int (ch)])), (a, .inl (cI, 60, .inl (f))), (h, .inr (2, [.ref qr, .ref qp, .int (nI md), .int (r0), .int (r1 + nI 1), .int (r2), .int (r3)]))]) H := hP
  have hD : va_D A ([(qr, .inl (cR, 3, .inr (.inr (.inr (.inr (fun i => some (ro i))))))), (ro i, .inr (1, [.ref a, .int (nI n), .int (ch)])), (a, .inl (cI, 60, .inl (f))), (h, .inr (2, [.ref qr, .ref qp, .int (nI md), .int (r0), .int (r1 + nI 1), .int (r2), .int (r3)]))]) := hD
  refine W.eq (g2 := F0 m 48 ls [.int (-5)]) rfl ?_
  have hP := hP.sub (ws' := [(h, .inr (2, [.ref qr, .ref qp, .int (nI md), .int (r0), .int (r1 + nI 1), .int (r2), .int (r3)])), (qr, .inl (cR, 3, .inr (.inr (.inr (.inr (fun i => some (ro i))))))), (ro i, .inr (1, [.ref a, .int (nI n), .int (ch)])), (a, .inl (cI, 60, .inl (f)))]) [3, 0, 1, 2] rfl
  have hD := hD.sub (ws' := [(h, .inr (2, [.ref qr, .ref qp, .int (nI md), .int (r0), .int (r1 + nI 1), .int (r2), .int (r3)])), (qr, .inl (cR, 3, .inr (.inr (.inr (.inr (fun i => some (ro i))))))), (ro i, .inr (1, [.ref a, .int (nI n), .int (ch)])), (a, .inl (cI, 60, .inl (f)))]) [3, 0, 1, 2] (by decide) rfl
  exact pw_iret hx hb hr (rfl) hlocks dX2_insert_48 hS hP hD (⟨rfl, rfl⟩)
theorem hi_X2_insert_1 : ∀ w ∈ u_ws RX1 TX1 3, w ∈ wsX2_insert := by decide +kernel
set_option maxHeartbeats 4000000 in
set_option maxRecDepth 100000 in
theorem k_insert (l : Launch) (D : va_G) (cI cP cR : ClassId) (h qr qp md : Nat) (r0 r1 r2 r3 : Int32) (ro : Nat → Nat) (i a n : Nat) (ch : Int32) (f : Nat → Int32) (hi : i < 3) (hn : n ≤ 60) (j nm : Nat) (hj : j ≤ n) (hnm : nm < 10) (hf : n < 60) : pw_Mm l yX2_insert wsX2_insert ({ frames := 2, cells := 0, slots := 0, locals := 45 } : Room) D cI cP cR [.ref h, .int (nI i), .int (nI j), .int (nI nm)] ([(h, .inr (2, [.ref qr, .ref qp, .int (nI md), .int (r0), .int (r1), .int (r2), .int (r3)])), (qr, .inl (cR, 3, .inr (.inr (.inr (.inr (fun i => some (ro i))))))), (ro i, .inr (1, [.ref a, .int (nI n), .int (ch)])), (a, .inl (cI, 60, .inl (f)))]) (fun v w => v = some (.int (nI (n + 1))) ∧ w = [(h, .inr (2, [.ref qr, .ref qp, .int (nI (md + 1)), .int (r0), .int (r1), .int (r2), .int (r3)])), (qr, .inl (cR, 3, .inr (.inr (.inr (.inr (fun i => some (ro i))))))), (ro i, .inr (1, [.ref a, .int (nI (n + 1)), .int (ch + nI 1)])), (a, .inl (cI, 60, .inl (upd (opn f j 1 n) j (nI ((md * 10) + nm)))))]) := by
  refine pw_ofm (cc := cX2_insert) (maxL := 5) (ret := (some .int)) (own := RX2) (by decide +kernel) rfl rfl (Nat.le_of_ble_eq_true rfl) ?_
  intro p_ e_ s m bel meth cd A hE hK hP hD hA hS ls hl
  obtain ⟨hx, hb, hr, hml, hown, hts, hlocks⟩ := hE
  have hNW := hK.2
  have hl : lv_has ls 5 [(0, .ref h), (1, .int (nI i)), (2, .int (nI j)), (3, .int (nI nm))] := hl
  refine lv_aload_n hx hb dX2_insert_0 rfl (lv_at hl 0 rfl) ?_
  refine lv_iload_n hx hb dX2_insert_1 rfl (lv_at hl 1 rfl) ?_
  -- c_rowOf_i
  refine pw_cVp (As := [.int (nI i)]) (rest := []) (wc := [(h, .inr (2, [.ref qr, .ref qp, .int (nI md), .int (r0), .int (r1), .int (r2), .int (r3)])), (qr, .inl (cR, 3, .inr (.inr (.inr (.inr (fun i => some (ro i)))))))]) ⟨hx, hb, hml, hown, hts⟩ (c_rowOf_i l D cI cP cR h qr qp md r0 r1 r2 r3 ro i (by omega)) (cwV 1 hts gX2_insert_X2_rowOf rfl rfl rfl (by decide +kernel) ⟨Nat.le_of_ble_eq_true rfl, Nat.le_of_ble_eq_true rfl⟩) hK hP hD [0, 1] rfl (by decide) 0 rfl rfl rfl rfl hl.1 rfl (Nat.le_of_ble_eq_true rfl) dX2_insert_2 ⟨Nat.zero_le _, Nat.zero_le _⟩ ?_
  refine lv_astore (lv' := [(4, .ref (ro i)), (0, .ref h), (1, .int (nI i)), (2, .int (nI j)), (3, .int (nI nm))]) hx hb dX2_insert_5 hl (by decide) rfl (fun ls hl => ?_)
  refine lv_aload hx hb dX2_insert_7 (lv_at hl 0 rfl) ?_
  refine lv_ifnull hx hb dX2_insert_9 ?_
  refine lv_iload_n hx hb dX2_insert_12 rfl (lv_at hl 4 rfl) ?_
  -- c_isName_t
  refine pw_cSp (As := [.int (nI nm)]) (rest := []) ⟨hx, hb, hml, hown, hts⟩ (c_isName_t l D cI cP cR nm (by omega)) (va_cwS 1 hts gX2_insert_X2_isName rfl rfl rfl (by decide +kernel) ⟨Nat.le_of_ble_eq_true rfl, Nat.le_of_ble_eq_true rfl⟩) hK rfl hl.1 rfl (Nat.le_of_ble_eq_true rfl) dX2_insert_13 ⟨Nat.zero_le _, Nat.zero_le _⟩ ?_
  refine lv_if_ne (tgt := 21) hx hb dX2_insert_16 (by decide) (fun c => ?_) (fun c => absurd c (by decide))
  refine lv_aload hx hb dX2_insert_21 (lv_at hl 0 rfl) ?_
  refine lv_iconst (v := nI 1) hx hb dX2_insert_23 (by decide) ?_
  -- c_hasRoomFor_t
  refine pw_cVp (As := [.int (nI 1)]) (rest := []) (wc := [(ro i, .inr (1, [.ref a, .int (nI n), .int (ch)])), (a, .inl (cI, 60, .inl (f)))]) ⟨hx, hb, hml, hown, hts⟩ (c_hasRoomFor_t l D cI cP cR (ro i) a n ch f 1 (by omega)) (cwV 1 hts gX2_insert_X1_hasRoomFor rfl rfl rfl (by decide +kernel) ⟨Nat.le_of_ble_eq_true rfl, Nat.le_of_ble_eq_true rfl⟩) hK hP hD [2, 3] rfl (by decide) 0 rfl rfl rfl rfl hl.1 rfl (Nat.le_of_ble_eq_true rfl) dX2_insert_24 ⟨Nat.zero_le _, Nat.zero_le _⟩ ?_
  refine lv_if_ne (tgt := 33) hx hb dX2_insert_27 (by decide) (fun c => ?_) (fun c => absurd c (by decide))
  refine lv_aload hx hb dX2_insert_33 (lv_at hl 0 rfl) ?_
  refine lv_iload_n hx hb dX2_insert_35 rfl (lv_at hl 3 rfl) ?_
  -- c_canPutAt_t
  refine pw_cVp (As := [.int (nI j)]) (rest := []) (wc := [(ro i, .inr (1, [.ref a, .int (nI n), .int (ch)])), (a, .inl (cI, 60, .inl (f)))]) ⟨hx, hb, hml, hown, hts⟩ (c_canPutAt_t l D cI cP cR (ro i) a n ch f j (by omega) (by omega)) (cwV 1 hts gX2_insert_X1_canPutAt rfl rfl rfl (by decide +kernel) ⟨Nat.le_of_ble_eq_true rfl, Nat.le_of_ble_eq_true rfl⟩) hK hP hD [2, 3] rfl (by decide) 0 rfl rfl rfl rfl hl.1 rfl (Nat.le_of_ble_eq_true rfl) dX2_insert_36 ⟨Nat.zero_le _, Nat.zero_le _⟩ ?_
  refine lv_if_ne (tgt := 49) hx hb dX2_insert_39 (by decide) (fun c => ?_) (fun c => absurd c (by decide))
  refine lv_aload hx hb dX2_insert_49 (lv_at hl 0 rfl) ?_
  refine lv_iload_n hx hb dX2_insert_51 rfl (lv_at hl 3 rfl) ?_
  refine lv_aload_n hx hb dX2_insert_52 rfl (lv_at hl 1 rfl) ?_
  refine lv_iload_n hx hb dX2_insert_53 rfl (lv_at hl 4 rfl) ?_
  -- c_newThing
  refine pw_cVm (As := [.int (nI nm)]) (rest := [.int (nI j), .ref (ro i)]) (wc := [(h, .inr (2, [.ref qr, .ref qp, .int (nI md), .int (r0), .int (r1), .int (r2), .int (r3)]))]) (wr := [(qr, .inl (cR, 3, .inr (.inr (.inr (.inr (fun i => some (ro i))))))), (ro i, .inr (1, [.ref a, .int (nI n), .int (ch)])), (a, .inl (cI, 60, .inl (f)))]) ⟨hx, hb, hml, hown, hts⟩ (c_newThing l D cI cP cR h qr qp md r0 r1 r2 r3 nm) (cwV 1 hts gX2_insert_X2_newThing rfl rfl rfl (by decide +kernel) ⟨Nat.le_of_ble_eq_true rfl, Nat.le_of_ble_eq_true rfl⟩) hK hP hD hS hA [0] [1, 2, 3] rfl rfl (by decide) (by decide) (by decide) 0 rfl rfl rfl rfl hl.1 rfl (Nat.le_of_ble_eq_true rfl) dX2_insert_54 ⟨Nat.zero_le _, Nat.zero_le _⟩ (fun v1 w1 H locs hq hP hD hS => ?_)
  rcases hq with ⟨rfl, rfl⟩
  have hP : va_P D vwCl ([(qr, .inl (cR, 3, .inr (.inr (.inr (.inr (fun i => some (ro i))))))), (ro i, .inr (1, [.ref a, .int (nI n), .int (ch)])), (a, .inl (cI, 60, .inl (f))), (h, .inr (2, [.ref qr, .ref qp, .int (nI (md + 1)), .int (r0), .int (r1), .int (r2), .int (r3)]))]) H := hP
  have hD : va_D A ([(qr, .inl (cR, 3, .inr (.inr (.inr (.inr (fun i => some (ro i))))))), (ro i, .inr (1, [.ref a, .int (nI n), .int (ch)])), (a, .inl (cI, 60, .inl (f))), (h, .inr (2, [.ref qr, .ref qp, .int (nI (md + 1)), .int (r0), .int (r1), .int (r2), .int (r3)]))]) := hD
  refine W.eq (g2 := F0 m 57 ls [.int (nI ((md * 10) + nm)), .int (nI j), .ref (ro i)]) rfl ?_
  -- c_putAt
  refine pw_cVm (As := [.int (nI j), .int (nI ((md * 10) + nm))]) (rest := []) (wc := [(ro i, .inr (1, [.ref a, .int (nI n), .int (ch)])), (a, .inl (cI, 60, .inl (f)))]) (wr := [(qr, .inl (cR, 3, .inr (.inr (.inr (.inr (fun i => some (ro i))))))), (h, .inr (2, [.ref qr, .ref qp, .int (nI (md + 1)), .int (r0), .int (r1), .int (r2), .int (r3)]))]) ⟨hx, hb, hml, hown, hts⟩ (c_putAt l D cI cP cR (ro i) a n ch f j (nI ((md * 10) + nm)) (by omega) (by omega)) (cwV 2 hts gX2_insert_X1_putAt rfl rfl rfl (by decide +kernel) ⟨Nat.le_of_ble_eq_true rfl, Nat.le_of_ble_eq_true rfl⟩) hK hP hD hS hA [1, 2] [0, 3] rfl rfl (by decide) (by decide) (by decide) 0 rfl rfl rfl rfl hl.1 rfl (Nat.le_of_ble_eq_true rfl) dX2_insert_57 ⟨Nat.zero_le _, Nat.zero_le _⟩ (fun v1 w1 H locs hq hP hD hS => ?_)
  rcases hq with ⟨rfl, rfl⟩
  have hP : va_P D vwCl ([(qr, .inl (cR, 3, .inr (.inr (.inr (.inr (fun i => some (ro i))))))), (h, .inr (2, [.ref qr, .ref qp, .int (nI (md + 1)), .int (r0), .int (r1), .int (r2), .int (r3)])), (ro i, .inr (1, [.ref a, .int (nI (n + 1)), .int (ch + nI 1)])), (a, .inl (cI, 60, .inl (upd (opn f j 1 n) j (nI ((md * 10) + nm)))))]) H := hP
  have hD : va_D A ([(qr, .inl (cR, 3, .inr (.inr (.inr (.inr (fun i => some (ro i))))))), (h, .inr (2, [.ref qr, .ref qp, .int (nI (md + 1)), .int (r0), .int (r1), .int (r2), .int (r3)])), (ro i, .inr (1, [.ref a, .int (nI (n + 1)), .int (ch + nI 1)])), (a, .inl (cI, 60, .inl (upd (opn f j 1 n) j (nI ((md * 10) + nm)))))]) := hD
  refine W.eq (g2 := F0 m 60 ls []) rfl ?_
  refine lv_aload hx hb dX2_insert_60 (lv_at hl 0 rfl) ?_
  refine va_getN (D := D) (ci := 1) (v := .int (nI (n + 1))) (C := RX1) (T := TX1) (N := 3) hx hb hts hi_X2_insert_1 hown hK.1 hP 2 rfl rfl 1 (by decide) (va_Nw.use rfl hNW.1) (fun _ h9 => h9) rfl dX2_insert_62 ?_
  have hP := hP.sub (ws' := [(h, .inr (2, [.ref qr, .ref qp, .int (nI (md + 1)), .int (r0), .int (r1), .int (r2), .int (r3)])), (qr, .inl (cR, 3, .inr (.inr (.inr (.inr (fun i => some (ro i))))))), (ro i, .inr (1, [.ref a, .int (nI (n + 1)), .int (ch + nI 1)])), (a, .inl (cI, 60, .inl (upd (opn f j 1 n) j (nI ((md * 10) + nm)))))]) [1, 0, 2, 3] rfl
  have hD := hD.sub (ws' := [(h, .inr (2, [.ref qr, .ref qp, .int (nI (md + 1)), .int (r0), .int (r1), .int (r2), .int (r3)])), (qr, .inl (cR, 3, .inr (.inr (.inr (.inr (fun i => some (ro i))))))), (ro i, .inr (1, [.ref a, .int (nI (n + 1)), .int (ch + nI 1)])), (a, .inl (cI, 60, .inl (upd (opn f j 1 n) j (nI ((md * 10) + nm)))))]) [1, 0, 2, 3] (by decide) rfl
  exact pw_iret hx hb hr (rfl) hlocks dX2_insert_65 hS hP hD (⟨rfl, rfl⟩)
set_option maxHeartbeats 4000000 in
set_option maxRecDepth 100000 in
theorem k_find_x (l : Launch) (D : va_G) (cI cP cR : ClassId) (h qr qp md : Nat) (r0 r1 r2 r3 : Int32) (ro : Nat → Nat) (row name la : Int32) (hbad : ¬ ((0 ≤ row ∧ row < nI 3) ∧ (0 ≤ name ∧ name < nI 10))) : pw_Mp l yX2_find wsX2_find ({ frames := 2, cells := 0, slots := 0, locals := 44 } : Room) D cI cP cR [.ref h, .int (row), .int (name), .int (la)] ([(h, .inr (2, [.ref qr, .ref qp, .int (nI md), .int (r0), .int (r1), .int (r2), .int (r3)])), (qr, .inl (cR, 3, .inr (.inr (.inr (.inr (fun i => some (ro i)))))))]) (.int (-1)) := by
  refine pw_ofp (cc := cX2_find) (maxL := 6) (ret := (some .int)) (own := RX2) (by decide +kernel) rfl rfl (Nat.le_of_ble_eq_true rfl) ?_
  intro p_ e_ s m bel meth cd hE hK hP hD ls hl
  obtain ⟨hx, hb, hr, hml, hown, hts, hlocks⟩ := hE
  have hNW := hK.2
  have hl : lv_has ls 6 [(0, .ref h), (1, .int (row)), (2, .int (name)), (3, .int (la))] := hl
  by_cases hx_row : 0 ≤ row ∧ row < nI 3
  · obtain ⟨rj_1, hrj_1, rfl⟩ := pw_inP (by decide) hx_row
    refine lv_aload_n hx hb dX2_find_0 rfl (lv_at hl 0 rfl) ?_
    refine lv_iload_n hx hb dX2_find_1 rfl (lv_at hl 1 rfl) ?_
    -- c_rowOf_i
    refine pw_cVp (As := [.int (nI rj_1)]) (rest := []) (wc := [(h, .inr (2, [.ref qr, .ref qp, .int (nI md), .int (r0), .int (r1), .int (r2), .int (r3)])), (qr, .inl (cR, 3, .inr (.inr (.inr (.inr (fun i => some (ro i)))))))]) ⟨hx, hb, hml, hown, hts⟩ (c_rowOf_i l D cI cP cR h qr qp md r0 r1 r2 r3 ro rj_1 (by omega)) (cwV 1 hts gX2_find_X2_rowOf rfl rfl rfl (by decide +kernel) ⟨Nat.le_of_ble_eq_true rfl, Nat.le_of_ble_eq_true rfl⟩) hK hP hD [0, 1] rfl (by decide) 0 rfl rfl rfl rfl hl.1 rfl (Nat.le_of_ble_eq_true rfl) dX2_find_2 ⟨Nat.zero_le _, Nat.zero_le _⟩ ?_
    refine lv_astore (lv' := [(4, .ref (ro rj_1)), (0, .ref h), (1, .int (nI rj_1)), (2, .int (name)), (3, .int (la))]) hx hb dX2_find_5 hl (by decide) rfl (fun ls hl => ?_)
    refine lv_aload hx hb dX2_find_7 (lv_at hl 0 rfl) ?_
    refine lv_ifnull hx hb dX2_find_9 ?_
    refine lv_iload_n hx hb dX2_find_12 rfl (lv_at hl 3 rfl) ?_
    -- c_isName_f
    refine pw_cSp (As := [.int (name)]) (rest := []) ⟨hx, hb, hml, hown, hts⟩ (c_isName_f l D cI cP cR name (fun h => hbad ⟨hx_row, h⟩)) (va_cwS 1 hts gX2_find_X2_isName rfl rfl rfl (by decide +kernel) ⟨Nat.le_of_ble_eq_true rfl, Nat.le_of_ble_eq_true rfl⟩) hK rfl hl.1 rfl (Nat.le_of_ble_eq_true rfl) dX2_find_13 ⟨Nat.zero_le _, Nat.zero_le _⟩ ?_
    refine lv_if_ne (tgt := 21) hx hb dX2_find_16 (by decide) (fun c => absurd c (by decide)) (fun c => ?_)
    refine lv_iconst (v := -1) hx hb dX2_find_19 (by decide) ?_
    exact pw_piret hx hb hr (rfl) hlocks dX2_find_20 (rfl)
  · have _h := hx_row
    refine lv_aload_n hx hb dX2_find_0 rfl (lv_at hl 0 rfl) ?_
    refine lv_iload_n hx hb dX2_find_1 rfl (lv_at hl 1 rfl) ?_
    -- c_rowOf_n
    refine pw_cVp (As := [.int (row)]) (rest := []) (wc := [(h, .inr (2, [.ref qr, .ref qp, .int (nI md), .int (r0), .int (r1), .int (r2), .int (r3)])), (qr, .inl (cR, 3, .inr (.inr (.inr (.inr (fun i => some (ro i)))))))]) ⟨hx, hb, hml, hown, hts⟩ (c_rowOf_n l D cI cP cR h qr qp md r0 r1 r2 r3 ro row hx_row) (cwV 1 hts gX2_find_X2_rowOf rfl rfl rfl (by decide +kernel) ⟨Nat.le_of_ble_eq_true rfl, Nat.le_of_ble_eq_true rfl⟩) hK hP hD [0, 1] rfl (by decide) 0 rfl rfl rfl rfl hl.1 rfl (Nat.le_of_ble_eq_true rfl) dX2_find_2 ⟨Nat.zero_le _, Nat.zero_le _⟩ ?_
    refine lv_astoreN (lv' := [(4, .null), (0, .ref h), (1, .int (row)), (2, .int (name)), (3, .int (la))]) hx hb dX2_find_5 hl (by decide) rfl (fun ls hl => ?_)
    refine lv_aloadN hx hb dX2_find_7 (lv_at hl 0 rfl) ?_
    refine lv_ifnullN (tgt := 19) hx hb dX2_find_9 (by decide) ?_
    refine lv_iconst (v := -1) hx hb dX2_find_19 (by decide) ?_
    exact pw_piret hx hb hr (rfl) hlocks dX2_find_20 (rfl)
set_option maxHeartbeats 4000000 in
set_option maxRecDepth 100000 in
theorem k_find (l : Launch) (D : va_G) (cI cP cR : ClassId) (h qr qp md : Nat) (r0 r1 r2 r3 : Int32) (ro : Nat → Nat) (i a n : Nat) (ch : Int32) (f : Nat → Int32) (hi : i < 3) (hn : n ≤ 60) (nm : Nat) (hnm : nm < 10) (la : Int32) : pw_Mp l yX2_find wsX2_find ({ frames := 2, cells := 0, slots := 0, locals := 44 } : Room) D cI cP cR [.ref h, .int (nI i), .int (nI nm), .int (la)] ([(h, .inr (2, [.ref qr, .ref qp, .int (nI md), .int (r0), .int (r1), .int (r2), .int (r3)])), (qr, .inl (cR, 3, .inr (.inr (.inr (.inr (fun i => some (ro i))))))), (ro i, .inr (1, [.ref a, .int (nI n), .int (ch)])), (a, .inl (cI, 60, .inl (f)))]) (.int (if plc f (nI nm) la n = -1 then -6 else plc f (nI nm) la n)) := by
  refine pw_ofp (cc := cX2_find) (maxL := 6) (ret := (some .int)) (own := RX2) (by decide +kernel) rfl rfl (Nat.le_of_ble_eq_true rfl) ?_
  intro p_ e_ s m bel meth cd hE hK hP hD ls hl
  obtain ⟨hx, hb, hr, hml, hown, hts, hlocks⟩ := hE
  have hNW := hK.2
  have hl : lv_has ls 6 [(0, .ref h), (1, .int (nI i)), (2, .int (nI nm)), (3, .int (la))] := hl
  refine lv_aload_n hx hb dX2_find_0 rfl (lv_at hl 0 rfl) ?_
  refine lv_iload_n hx hb dX2_find_1 rfl (lv_at hl 1 rfl) ?_
  -- c_rowOf_i
  refine pw_cVp (As := [.int (nI i)]) (rest := []) (wc := [(h, .inr (2, [.ref qr, .ref qp, .int (nI md), .int (r0), .int (r1), .int (r2), .int (r3)])), (qr, .inl (cR, 3, .inr (.inr (.inr (.inr (fun i => some (ro i)))))))]) ⟨hx, hb, hml, hown, hts⟩ (c_rowOf_i l D cI cP cR h qr qp md r0 r1 r2 r3 ro i (by omega)) (cwV 1 hts gX2_find_X2_rowOf rfl rfl rfl (by decide +kernel) ⟨Nat.le_of_ble_eq_true rfl, Nat.le_of_ble_eq_true rfl⟩) hK hP hD [0, 1] rfl (by decide) 0 rfl rfl rfl rfl hl.1 rfl (Nat.le_of_ble_eq_true rfl) dX2_find_2 ⟨Nat.zero_le _, Nat.zero_le _⟩ ?_
  refine lv_astore (lv' := [(4, .ref (ro i)), (0, .ref h), (1, .int (nI i)), (2, .int (nI nm)), (3, .int (la))]) hx hb dX2_find_5 hl (by decide) rfl (fun ls hl => ?_)
  refine lv_aload hx hb dX2_find_7 (lv_at hl 0 rfl) ?_
  refine lv_ifnull hx hb dX2_find_9 ?_
  refine lv_iload_n hx hb dX2_find_12 rfl (lv_at hl 3 rfl) ?_
  -- c_isName_t
  refine pw_cSp (As := [.int (nI nm)]) (rest := []) ⟨hx, hb, hml, hown, hts⟩ (c_isName_t l D cI cP cR nm (by omega)) (va_cwS 1 hts gX2_find_X2_isName rfl rfl rfl (by decide +kernel) ⟨Nat.le_of_ble_eq_true rfl, Nat.le_of_ble_eq_true rfl⟩) hK rfl hl.1 rfl (Nat.le_of_ble_eq_true rfl) dX2_find_13 ⟨Nat.zero_le _, Nat.zero_le _⟩ ?_
  refine lv_if_ne (tgt := 21) hx hb dX2_find_16 (by decide) (fun c => ?_) (fun c => absurd c (by decide))
  refine lv_aload hx hb dX2_find_21 (lv_at hl 0 rfl) ?_
  refine lv_iload_n hx hb dX2_find_23 rfl (lv_at hl 3 rfl) ?_
  refine lv_iload_n hx hb dX2_find_24 rfl (lv_at hl 4 rfl) ?_
  -- c_placeOf
  refine pw_cVp (As := [.int (nI nm), .int (la)]) (rest := []) (wc := [(ro i, .inr (1, [.ref a, .int (nI n), .int (ch)])), (a, .inl (cI, 60, .inl (f)))]) ⟨hx, hb, hml, hown, hts⟩ (c_placeOf l D cI cP cR (ro i) a n ch f (nI nm) la (by omega)) (cwV 2 hts gX2_find_X1_placeOf rfl rfl rfl (by decide +kernel) ⟨Nat.le_of_ble_eq_true rfl, Nat.le_of_ble_eq_true rfl⟩) hK hP hD [2, 3] rfl (by decide) 0 rfl rfl rfl rfl hl.1 rfl (Nat.le_of_ble_eq_true rfl) dX2_find_25 ⟨Nat.zero_le _, Nat.zero_le _⟩ ?_
  refine lv_istore (lv' := [(5, .int (plc f (nI nm) la n)), (4, .ref (ro i)), (0, .ref h), (1, .int (nI i)), (2, .int (nI nm)), (3, .int (la))]) hx hb dX2_find_28 hl (by decide) rfl (fun ls hl => ?_)
  refine lv_iload hx hb dX2_find_30 (lv_at hl 0 rfl) ?_
  refine lv_iconst (v := -1) hx hb dX2_find_32 (by decide) ?_
  refine lv_icmp_ne (tgt := 41) hx hb dX2_find_33 (by decide) (fun c_1 => ?_) (fun c_1 => ?_)
  · have _h := c_1
    refine lv_iload hx hb dX2_find_41 (lv_at hl 0 rfl) ?_
    exact pw_piret hx hb hr (rfl) hlocks dX2_find_43 (by rw [if_neg c_1])
  · have _h := c_1
    refine lv_bipush (v := -6) hx hb dX2_find_36 (by decide) ?_
    refine lv_goto (tgt := 43) hx hb dX2_find_38 (by decide) ?_
    exact pw_piret hx hb hr (rfl) hlocks dX2_find_43 (by rw [if_pos c_1])
set_option maxHeartbeats 4000000 in
set_option maxRecDepth 100000 in
theorem k_has_x (l : Launch) (D : va_G) (cI cP cR : ClassId) (h qr qp md : Nat) (r0 r1 r2 r3 : Int32) (ro : Nat → Nat) (row name : Int32) (hbad : ¬ ((0 ≤ row ∧ row < nI 3) ∧ (0 ≤ name ∧ name < nI 10))) : pw_Mp l yX2_has wsX2_has ({ frames := 2, cells := 0, slots := 0, locals := 44 } : Room) D cI cP cR [.ref h, .int (row), .int (name)] ([(h, .inr (2, [.ref qr, .ref qp, .int (nI md), .int (r0), .int (r1), .int (r2), .int (r3)])), (qr, .inl (cR, 3, .inr (.inr (.inr (.inr (fun i => some (ro i)))))))]) (.int (-1)) := by
  refine pw_ofp (cc := cX2_has) (maxL := 4) (ret := (some .int)) (own := RX2) (by decide +kernel) rfl rfl (Nat.le_of_ble_eq_true rfl) ?_
  intro p_ e_ s m bel meth cd hE hK hP hD ls hl
  obtain ⟨hx, hb, hr, hml, hown, hts, hlocks⟩ := hE
  have hNW := hK.2
  have hl : lv_has ls 4 [(0, .ref h), (1, .int (row)), (2, .int (name))] := hl
  by_cases hx_row : 0 ≤ row ∧ row < nI 3
  · obtain ⟨rj_1, hrj_1, rfl⟩ := pw_inP (by decide) hx_row
    refine lv_aload_n hx hb dX2_has_0 rfl (lv_at hl 0 rfl) ?_
    refine lv_iload_n hx hb dX2_has_1 rfl (lv_at hl 1 rfl) ?_
    -- c_rowOf_i
    refine pw_cVp (As := [.int (nI rj_1)]) (rest := []) (wc := [(h, .inr (2, [.ref qr, .ref qp, .int (nI md), .int (r0), .int (r1), .int (r2), .int (r3)])), (qr, .inl (cR, 3, .inr (.inr (.inr (.inr (fun i => some (ro i)))))))]) ⟨hx, hb, hml, hown, hts⟩ (c_rowOf_i l D cI cP cR h qr qp md r0 r1 r2 r3 ro rj_1 (by omega)) (cwV 1 hts gX2_has_X2_rowOf rfl rfl rfl (by decide +kernel) ⟨Nat.le_of_ble_eq_true rfl, Nat.le_of_ble_eq_true rfl⟩) hK hP hD [0, 1] rfl (by decide) 0 rfl rfl rfl rfl hl.1 rfl (Nat.le_of_ble_eq_true rfl) dX2_has_2 ⟨Nat.zero_le _, Nat.zero_le _⟩ ?_
    refine lv_astore_n (lv' := [(3, .ref (ro rj_1)), (0, .ref h), (1, .int (nI rj_1)), (2, .int (name))]) hx hb dX2_has_5 rfl hl (by decide) rfl (fun ls hl => ?_)
    refine lv_aload_n hx hb dX2_has_6 rfl (lv_at hl 0 rfl) ?_
    refine lv_ifnull hx hb dX2_has_7 ?_
    refine lv_iload_n hx hb dX2_has_10 rfl (lv_at hl 3 rfl) ?_
    -- c_isName_f
    refine pw_cSp (As := [.int (name)]) (rest := []) ⟨hx, hb, hml, hown, hts⟩ (c_isName_f l D cI cP cR name (fun h => hbad ⟨hx_row, h⟩)) (va_cwS 1 hts gX2_has_X2_isName rfl rfl rfl (by decide +kernel) ⟨Nat.le_of_ble_eq_true rfl, Nat.le_of_ble_eq_true rfl⟩) hK rfl hl.1 rfl (Nat.le_of_ble_eq_true rfl) dX2_has_11 ⟨Nat.zero_le _, Nat.zero_le _⟩ ?_
    refine lv_if_ne (tgt := 19) hx hb dX2_has_14 (by decide) (fun c => absurd c (by decide)) (fun c => ?_)
    refine lv_iconst (v := -1) hx hb dX2_has_17 (by decide) ?_
    exact pw_piret hx hb hr (rfl) hlocks dX2_has_18 (rfl)
  · have _h := hx_row
    refine lv_aload_n hx hb dX2_has_0 rfl (lv_at hl 0 rfl) ?_
    refine lv_iload_n hx hb dX2_has_1 rfl (lv_at hl 1 rfl) ?_
    -- c_rowOf_n
    refine pw_cVp (As := [.int (row)]) (rest := []) (wc := [(h, .inr (2, [.ref qr, .ref qp, .int (nI md), .int (r0), .int (r1), .int (r2), .int (r3)])), (qr, .inl (cR, 3, .inr (.inr (.inr (.inr (fun i => some (ro i)))))))]) ⟨hx, hb, hml, hown, hts⟩ (c_rowOf_n l D cI cP cR h qr qp md r0 r1 r2 r3 ro row hx_row) (cwV 1 hts gX2_has_X2_rowOf rfl rfl rfl (by decide +kernel) ⟨Nat.le_of_ble_eq_true rfl, Nat.le_of_ble_eq_true rfl⟩) hK hP hD [0, 1] rfl (by decide) 0 rfl rfl rfl rfl hl.1 rfl (Nat.le_of_ble_eq_true rfl) dX2_has_2 ⟨Nat.zero_le _, Nat.zero_le _⟩ ?_
    refine lv_astore_nN (lv' := [(3, .null), (0, .ref h), (1, .int (row)), (2, .int (name))]) hx hb dX2_has_5 rfl hl (by decide) rfl (fun ls hl => ?_)
    refine lv_aload_nN hx hb dX2_has_6 rfl (lv_at hl 0 rfl) ?_
    refine lv_ifnullN (tgt := 17) hx hb dX2_has_7 (by decide) ?_
    refine lv_iconst (v := -1) hx hb dX2_has_17 (by decide) ?_
    exact pw_piret hx hb hr (rfl) hlocks dX2_has_18 (rfl)
set_option maxHeartbeats 4000000 in
set_option maxRecDepth 100000 in
theorem k_has (l : Launch) (D : va_G) (cI cP cR : ClassId) (h qr qp md : Nat) (r0 r1 r2 r3 : Int32) (ro : Nat → Nat) (i a n : Nat) (ch : Int32) (f : Nat → Int32) (hi : i < 3) (hn : n ≤ 60) (nm : Nat) (hnm : nm < 10) : pw_Mp l yX2_has wsX2_has ({ frames := 2, cells := 0, slots := 0, locals := 44 } : Room) D cI cP cR [.ref h, .int (nI i), .int (nI nm)] ([(h, .inr (2, [.ref qr, .ref qp, .int (nI md), .int (r0), .int (r1), .int (r2), .int (r3)])), (qr, .inl (cR, 3, .inr (.inr (.inr (.inr (fun i => some (ro i))))))), (ro i, .inr (1, [.ref a, .int (nI n), .int (ch)])), (a, .inl (cI, 60, .inl (f)))]) (.int (if plc f (nI nm) (nI 0) n = -1 then nI 0 else nI 1)) := by
  refine pw_ofp (cc := cX2_has) (maxL := 4) (ret := (some .int)) (own := RX2) (by decide +kernel) rfl rfl (Nat.le_of_ble_eq_true rfl) ?_
  intro p_ e_ s m bel meth cd hE hK hP hD ls hl
  obtain ⟨hx, hb, hr, hml, hown, hts, hlocks⟩ := hE
  have hNW := hK.2
  have hl : lv_has ls 4 [(0, .ref h), (1, .int (nI i)), (2, .int (nI nm))] := hl
  refine lv_aload_n hx hb dX2_has_0 rfl (lv_at hl 0 rfl) ?_
  refine lv_iload_n hx hb dX2_has_1 rfl (lv_at hl 1 rfl) ?_
  -- c_rowOf_i
  refine pw_cVp (As := [.int (nI i)]) (rest := []) (wc := [(h, .inr (2, [.ref qr, .ref qp, .int (nI md), .int (r0), .int (r1), .int (r2), .int (r3)])), (qr, .inl (cR, 3, .inr (.inr (.inr (.inr (fun i => some (ro i)))))))]) ⟨hx, hb, hml, hown, hts⟩ (c_rowOf_i l D cI cP cR h qr qp md r0 r1 r2 r3 ro i (by omega)) (cwV 1 hts gX2_has_X2_rowOf rfl rfl rfl (by decide +kernel) ⟨Nat.le_of_ble_eq_true rfl, Nat.le_of_ble_eq_true rfl⟩) hK hP hD [0, 1] rfl (by decide) 0 rfl rfl rfl rfl hl.1 rfl (Nat.le_of_ble_eq_true rfl) dX2_has_2 ⟨Nat.zero_le _, Nat.zero_le _⟩ ?_
  refine lv_astore_n (lv' := [(3, .ref (ro i)), (0, .ref h), (1, .int (nI i)), (2, .int (nI nm))]) hx hb dX2_has_5 rfl hl (by decide) rfl (fun ls hl => ?_)
  refine lv_aload_n hx hb dX2_has_6 rfl (lv_at hl 0 rfl) ?_
  refine lv_ifnull hx hb dX2_has_7 ?_
  refine lv_iload_n hx hb dX2_has_10 rfl (lv_at hl 3 rfl) ?_
  -- c_isName_t
  refine pw_cSp (As := [.int (nI nm)]) (rest := []) ⟨hx, hb, hml, hown, hts⟩ (c_isName_t l D cI cP cR nm (by omega)) (va_cwS 1 hts gX2_has_X2_isName rfl rfl rfl (by decide +kernel) ⟨Nat.le_of_ble_eq_true rfl, Nat.le_of_ble_eq_true rfl⟩) hK rfl hl.1 rfl (Nat.le_of_ble_eq_true rfl) dX2_has_11 ⟨Nat.zero_le _, Nat.zero_le _⟩ ?_
  refine lv_if_ne (tgt := 19) hx hb dX2_has_14 (by decide) (fun c => ?_) (fun c => absurd c (by decide))
  refine lv_aload_n hx hb dX2_has_19 rfl (lv_at hl 0 rfl) ?_
  refine lv_iload_n hx hb dX2_has_20 rfl (lv_at hl 3 rfl) ?_
  refine lv_iconst (v := nI 0) hx hb dX2_has_21 (by decide) ?_
  -- c_placeOf
  refine pw_cVp (As := [.int (nI nm), .int (nI 0)]) (rest := []) (wc := [(ro i, .inr (1, [.ref a, .int (nI n), .int (ch)])), (a, .inl (cI, 60, .inl (f)))]) ⟨hx, hb, hml, hown, hts⟩ (c_placeOf l D cI cP cR (ro i) a n ch f (nI nm) (nI 0) (by omega)) (cwV 2 hts gX2_has_X1_placeOf rfl rfl rfl (by decide +kernel) ⟨Nat.le_of_ble_eq_true rfl, Nat.le_of_ble_eq_true rfl⟩) hK hP hD [2, 3] rfl (by decide) 0 rfl rfl rfl rfl hl.1 rfl (Nat.le_of_ble_eq_true rfl) dX2_has_22 ⟨Nat.zero_le _, Nat.zero_le _⟩ ?_
  refine lv_iconst (v := -1) hx hb dX2_has_25 (by decide) ?_
  refine lv_icmp_eq (tgt := 33) hx hb dX2_has_26 (by decide) (fun c_1 => ?_) (fun c_1 => ?_)
  · have _h := c_1
    refine lv_iconst (v := nI 0) hx hb dX2_has_33 (by decide) ?_
    -- c_oneIf_0
    refine pw_cSp (As := [.int (nI 0)]) (rest := []) ⟨hx, hb, hml, hown, hts⟩ (c_oneIf_0 l D cI cP cR ) (va_cwS 1 hts gX2_has_X2_oneIf rfl rfl rfl (by decide +kernel) ⟨Nat.le_of_ble_eq_true rfl, Nat.le_of_ble_eq_true rfl⟩) hK rfl hl.1 rfl (Nat.le_of_ble_eq_true rfl) dX2_has_34 ⟨Nat.zero_le _, Nat.zero_le _⟩ ?_
    exact pw_piret hx hb hr (rfl) hlocks dX2_has_37 (by rw [if_pos c_1])
  · have _h := c_1
    refine lv_iconst (v := nI 1) hx hb dX2_has_29 (by decide) ?_
    refine lv_goto (tgt := 34) hx hb dX2_has_30 (by decide) ?_
    -- c_oneIf_1
    refine pw_cSp (As := [.int (nI 1)]) (rest := []) ⟨hx, hb, hml, hown, hts⟩ (c_oneIf_1 l D cI cP cR ) (va_cwS 1 hts gX2_has_X2_oneIf rfl rfl rfl (by decide +kernel) ⟨Nat.le_of_ble_eq_true rfl, Nat.le_of_ble_eq_true rfl⟩) hK rfl hl.1 rfl (Nat.le_of_ble_eq_true rfl) dX2_has_34 ⟨Nat.zero_le _, Nat.zero_le _⟩ ?_
    exact pw_piret hx hb hr (rfl) hlocks dX2_has_37 (by rw [if_neg c_1])
set_option maxHeartbeats 4000000 in
set_option maxRecDepth 100000 in
theorem k_lose_x (l : Launch) (D : va_G) (cI cP cR : ClassId) (h qr qp md : Nat) (r0 r1 r2 r3 : Int32) (ro : Nat → Nat) (row name how : Int32) (hbad : ¬ ((0 ≤ row ∧ row < nI 3) ∧ (0 ≤ name ∧ name < nI 10) ∧ (0 ≤ how ∧ how ≤ nI 2))) : pw_Mp l yX2_lose wsX2_lose ({ frames := 2, cells := 0, slots := 0, locals := 44 } : Room) D cI cP cR [.ref h, .int (row), .int (name), .int (how)] ([(h, .inr (2, [.ref qr, .ref qp, .int (nI md), .int (r0), .int (r1), .int (r2), .int (r3)])), (qr, .inl (cR, 3, .inr (.inr (.inr (.inr (fun i => some (ro i)))))))]) (.int (-1)) := by
  refine pw_ofp (cc := cX2_lose) (maxL := 6) (ret := (some .int)) (own := RX2) (by decide +kernel) rfl rfl (Nat.le_of_ble_eq_true rfl) ?_
  intro p_ e_ s m bel meth cd hE hK hP hD ls hl
  obtain ⟨hx, hb, hr, hml, hown, hts, hlocks⟩ := hE
  have hNW := hK.2
  have hl : lv_has ls 6 [(0, .ref h), (1, .int (row)), (2, .int (name)), (3, .int (how))] := hl
  by_cases hx_row : 0 ≤ row ∧ row < nI 3
  · obtain ⟨rj_1, hrj_1, rfl⟩ := pw_inP (by decide) hx_row
    by_cases hx_name : 0 ≤ name ∧ name < nI 10
    · obtain ⟨nj_2, hnj_2, rfl⟩ := pw_inP (by decide) hx_name
      refine lv_aload_n hx hb dX2_lose_0 rfl (lv_at hl 0 rfl) ?_
      refine lv_iload_n hx hb dX2_lose_1 rfl (lv_at hl 1 rfl) ?_
      -- c_rowOf_i
      refine pw_cVp (As := [.int (nI rj_1)]) (rest := []) (wc := [(h, .inr (2, [.ref qr, .ref qp, .int (nI md), .int (r0), .int (r1), .int (r2), .int (r3)])), (qr, .inl (cR, 3, .inr (.inr (.inr (.inr (fun i => some (ro i)))))))]) ⟨hx, hb, hml, hown, hts⟩ (c_rowOf_i l D cI cP cR h qr qp md r0 r1 r2 r3 ro rj_1 (by omega)) (cwV 1 hts gX2_lose_X2_rowOf rfl rfl rfl (by decide +kernel) ⟨Nat.le_of_ble_eq_true rfl, Nat.le_of_ble_eq_true rfl⟩) hK hP hD [0, 1] rfl (by decide) 0 rfl rfl rfl rfl hl.1 rfl (Nat.le_of_ble_eq_true rfl) dX2_lose_2 ⟨Nat.zero_le _, Nat.zero_le _⟩ ?_
      refine lv_astore (lv' := [(4, .ref (ro rj_1)), (0, .ref h), (1, .int (nI rj_1)), (2, .int (nI nj_2)), (3, .int (how))]) hx hb dX2_lose_5 hl (by decide) rfl (fun ls hl => ?_)
      refine lv_aload hx hb dX2_lose_7 (lv_at hl 0 rfl) ?_
      refine lv_ifnull hx hb dX2_lose_9 ?_
      refine lv_iload_n hx hb dX2_lose_12 rfl (lv_at hl 3 rfl) ?_
      -- c_isName_t
      refine pw_cSp (As := [.int (nI nj_2)]) (rest := []) ⟨hx, hb, hml, hown, hts⟩ (c_isName_t l D cI cP cR nj_2 (by omega)) (va_cwS 1 hts gX2_lose_X2_isName rfl rfl rfl (by decide +kernel) ⟨Nat.le_of_ble_eq_true rfl, Nat.le_of_ble_eq_true rfl⟩) hK rfl hl.1 rfl (Nat.le_of_ble_eq_true rfl) dX2_lose_13 ⟨Nat.zero_le _, Nat.zero_le _⟩ ?_
      refine lv_if_eq (tgt := 28) hx hb dX2_lose_16 (by decide) (fun c => absurd c (by decide)) (fun c => ?_)
      refine lv_iload_n hx hb dX2_lose_19 rfl (lv_at hl 4 rfl) ?_
      refine lv_if_lt (tgt := 28) hx hb dX2_lose_20 (by decide) (fun c_3 => ?_) (fun c_3 => ?_)
      · have _h := c_3
        refine lv_iconst (v := -1) hx hb dX2_lose_28 (by decide) ?_
        exact pw_piret hx hb hr (rfl) hlocks dX2_lose_29 (rfl)
      · have _h := c_3
        refine lv_iload_n hx hb dX2_lose_23 rfl (lv_at hl 4 rfl) ?_
        refine lv_iconst (v := nI 2) hx hb dX2_lose_24 (by decide) ?_
        refine lv_icmp_le (tgt := 30) hx hb dX2_lose_25 (by decide) (fun c_4 => ?_) (fun c_4 => ?_)
        · exact absurd ⟨hx_row, hx_name, Int32.not_lt.mp c_3, c_4⟩ hbad
        · have _h := c_4
          refine lv_iconst (v := -1) hx hb dX2_lose_28 (by decide) ?_
          exact pw_piret hx hb hr (rfl) hlocks dX2_lose_29 (rfl)
    · have _h := hx_name
      refine lv_aload_n hx hb dX2_lose_0 rfl (lv_at hl 0 rfl) ?_
      refine lv_iload_n hx hb dX2_lose_1 rfl (lv_at hl 1 rfl) ?_
      -- c_rowOf_i
      refine pw_cVp (As := [.int (nI rj_1)]) (rest := []) (wc := [(h, .inr (2, [.ref qr, .ref qp, .int (nI md), .int (r0), .int (r1), .int (r2), .int (r3)])), (qr, .inl (cR, 3, .inr (.inr (.inr (.inr (fun i => some (ro i)))))))]) ⟨hx, hb, hml, hown, hts⟩ (c_rowOf_i l D cI cP cR h qr qp md r0 r1 r2 r3 ro rj_1 (by omega)) (cwV 1 hts gX2_lose_X2_rowOf rfl rfl rfl (by decide +kernel) ⟨Nat.le_of_ble_eq_true rfl, Nat.le_of_ble_eq_true rfl⟩) hK hP hD [0, 1] rfl (by decide) 0 rfl rfl rfl rfl hl.1 rfl (Nat.le_of_ble_eq_true rfl) dX2_lose_2 ⟨Nat.zero_le _, Nat.zero_le _⟩ ?_
      refine lv_astore (lv' := [(4, .ref (ro rj_1)), (0, .ref h), (1, .int (nI rj_1)), (2, .int (name)), (3, .int (how))]) hx hb dX2_lose_5 hl (by decide) rfl (fun ls hl => ?_)
      refine lv_aload hx hb dX2_lose_7 (lv_at hl 0 rfl) ?_
      refine lv_ifnull hx hb dX2_lose_9 ?_
      refine lv_iload_n hx hb dX2_lose_12 rfl (lv_at hl 3 rfl) ?_
      -- c_isName_f
      refine pw_cSp (As := [.int (name)]) (rest := []) ⟨hx, hb, hml, hown, hts⟩ (c_isName_f l D cI cP cR name hx_name) (va_cwS 1 hts gX2_lose_X2_isName rfl rfl rfl (by decide +kernel) ⟨Nat.le_of_ble_eq_true rfl, Nat.le_of_ble_eq_true rfl⟩) hK rfl hl.1 rfl (Nat.le_of_ble_eq_true rfl) dX2_lose_13 ⟨Nat.zero_le _, Nat.zero_le _⟩ ?_
      refine lv_if_eq (tgt := 28) hx hb dX2_lose_16 (by decide) (fun c => ?_) (fun c => absurd c (by decide))
      refine lv_iconst (v := -1) hx hb dX2_lose_28 (by decide) ?_
      exact pw_piret hx hb hr (rfl) hlocks dX2_lose_29 (rfl)
  · have _h := hx_row
    refine lv_aload_n hx hb dX2_lose_0 rfl (lv_at hl 0 rfl) ?_
    refine lv_iload_n hx hb dX2_lose_1 rfl (lv_at hl 1 rfl) ?_
    -- c_rowOf_n
    refine pw_cVp (As := [.int (row)]) (rest := []) (wc := [(h, .inr (2, [.ref qr, .ref qp, .int (nI md), .int (r0), .int (r1), .int (r2), .int (r3)])), (qr, .inl (cR, 3, .inr (.inr (.inr (.inr (fun i => some (ro i)))))))]) ⟨hx, hb, hml, hown, hts⟩ (c_rowOf_n l D cI cP cR h qr qp md r0 r1 r2 r3 ro row hx_row) (cwV 1 hts gX2_lose_X2_rowOf rfl rfl rfl (by decide +kernel) ⟨Nat.le_of_ble_eq_true rfl, Nat.le_of_ble_eq_true rfl⟩) hK hP hD [0, 1] rfl (by decide) 0 rfl rfl rfl rfl hl.1 rfl (Nat.le_of_ble_eq_true rfl) dX2_lose_2 ⟨Nat.zero_le _, Nat.zero_le _⟩ ?_
    refine lv_astoreN (lv' := [(4, .null), (0, .ref h), (1, .int (row)), (2, .int (name)), (3, .int (how))]) hx hb dX2_lose_5 hl (by decide) rfl (fun ls hl => ?_)
    refine lv_aloadN hx hb dX2_lose_7 (lv_at hl 0 rfl) ?_
    refine lv_ifnullN (tgt := 28) hx hb dX2_lose_9 (by decide) ?_
    refine lv_iconst (v := -1) hx hb dX2_lose_28 (by decide) ?_
    exact pw_piret hx hb hr (rfl) hlocks dX2_lose_29 (rfl)
set_option maxHeartbeats 4000000 in
set_option maxRecDepth 100000 in
theorem k_lose_0 (l : Launch) (D : va_G) (cI cP cR : ClassId) (h qr qp md : Nat) (r0 r1 r2 r3 : Int32) (ro : Nat → Nat) (i a n : Nat) (ch : Int32) (f : Nat → Int32) (hi : i < 3) (hn : n ≤ 60) (nm hw : Nat) (hnm : nm < 10) (hw2 : hw ≤ 2) (hp : plc f (nI nm) (laF hw) n = -1) : pw_Mp l yX2_lose wsX2_lose ({ frames := 2, cells := 0, slots := 0, locals := 44 } : Room) D cI cP cR [.ref h, .int (nI i), .int (nI nm), .int (nI hw)] ([(h, .inr (2, [.ref qr, .ref qp, .int (nI md), .int (r0), .int (r1), .int (r2), .int (r3)])), (qr, .inl (cR, 3, .inr (.inr (.inr (.inr (fun i => some (ro i))))))), (ro i, .inr (1, [.ref a, .int (nI n), .int (ch)])), (a, .inl (cI, 60, .inl (f)))]) (.int (nI 0)) := by
  refine pw_ofp (cc := cX2_lose) (maxL := 6) (ret := (some .int)) (own := RX2) (by decide +kernel) rfl rfl (Nat.le_of_ble_eq_true rfl) ?_
  intro p_ e_ s m bel meth cd hE hK hP hD ls hl
  obtain ⟨hx, hb, hr, hml, hown, hts, hlocks⟩ := hE
  have hNW := hK.2
  have hl : lv_has ls 6 [(0, .ref h), (1, .int (nI i)), (2, .int (nI nm)), (3, .int (nI hw))] := hl
  refine lv_aload_n hx hb dX2_lose_0 rfl (lv_at hl 0 rfl) ?_
  refine lv_iload_n hx hb dX2_lose_1 rfl (lv_at hl 1 rfl) ?_
  -- c_rowOf_i
  refine pw_cVp (As := [.int (nI i)]) (rest := []) (wc := [(h, .inr (2, [.ref qr, .ref qp, .int (nI md), .int (r0), .int (r1), .int (r2), .int (r3)])), (qr, .inl (cR, 3, .inr (.inr (.inr (.inr (fun i => some (ro i)))))))]) ⟨hx, hb, hml, hown, hts⟩ (c_rowOf_i l D cI cP cR h qr qp md r0 r1 r2 r3 ro i (by omega)) (cwV 1 hts gX2_lose_X2_rowOf rfl rfl rfl (by decide +kernel) ⟨Nat.le_of_ble_eq_true rfl, Nat.le_of_ble_eq_true rfl⟩) hK hP hD [0, 1] rfl (by decide) 0 rfl rfl rfl rfl hl.1 rfl (Nat.le_of_ble_eq_true rfl) dX2_lose_2 ⟨Nat.zero_le _, Nat.zero_le _⟩ ?_
  refine lv_astore (lv' := [(4, .ref (ro i)), (0, .ref h), (1, .int (nI i)), (2, .int (nI nm)), (3, .int (nI hw))]) hx hb dX2_lose_5 hl (by decide) rfl (fun ls hl => ?_)
  refine lv_aload hx hb dX2_lose_7 (lv_at hl 0 rfl) ?_
  refine lv_ifnull hx hb dX2_lose_9 ?_
  refine lv_iload_n hx hb dX2_lose_12 rfl (lv_at hl 3 rfl) ?_
  -- c_isName_t
  refine pw_cSp (As := [.int (nI nm)]) (rest := []) ⟨hx, hb, hml, hown, hts⟩ (c_isName_t l D cI cP cR nm (by omega)) (va_cwS 1 hts gX2_lose_X2_isName rfl rfl rfl (by decide +kernel) ⟨Nat.le_of_ble_eq_true rfl, Nat.le_of_ble_eq_true rfl⟩) hK rfl hl.1 rfl (Nat.le_of_ble_eq_true rfl) dX2_lose_13 ⟨Nat.zero_le _, Nat.zero_le _⟩ ?_
  refine lv_if_eq (tgt := 28) hx hb dX2_lose_16 (by decide) (fun c => absurd c (by decide)) (fun c => ?_)
  refine lv_iload_n hx hb dX2_lose_19 rfl (lv_at hl 4 rfl) ?_
  refine pw_if_lt (tgt := 28) hx hb (by omega) dX2_lose_20 (by decide) ?_
  refine lv_iload_n hx hb dX2_lose_23 rfl (lv_at hl 4 rfl) ?_
  refine lv_iconst (v := nI 2) hx hb dX2_lose_24 (by decide) ?_
  refine pw_icmp_le (tgt := 30) hx hb (by omega) (by omega) dX2_lose_25 (by decide) (fun c_1 => ?_) (fun c_1 => ?_)
  · have _h := c_1
    refine lv_aload hx hb dX2_lose_30 (lv_at hl 0 rfl) ?_
    refine lv_iload_n hx hb dX2_lose_32 rfl (lv_at hl 3 rfl) ?_
    refine lv_iload_n hx hb dX2_lose_33 rfl (lv_at hl 4 rfl) ?_
    refine lv_iconst (v := nI 2) hx hb dX2_lose_34 (by decide) ?_
    refine pw_icmp_ne (tgt := 42) hx hb (by omega) (by omega) dX2_lose_35 (by decide) (fun c_2 => ?_) (fun c_2 => ?_)
    · have _h := c_2
      refine lv_iconst (v := nI 0) hx hb dX2_lose_42 (by decide) ?_
      -- c_placeOf
      refine pw_cVp (As := [.int (nI nm), .int (nI 0)]) (rest := []) (wc := [(ro i, .inr (1, [.ref a, .int (nI n), .int (ch)])), (a, .inl (cI, 60, .inl (f)))]) ⟨hx, hb, hml, hown, hts⟩ (c_placeOf l D cI cP cR (ro i) a n ch f (nI nm) (nI 0) (by omega)) (cwV 2 hts gX2_lose_X1_placeOf rfl rfl rfl (by decide +kernel) ⟨Nat.le_of_ble_eq_true rfl, Nat.le_of_ble_eq_true rfl⟩) hK hP hD [2, 3] rfl (by decide) 0 rfl rfl rfl rfl hl.1 rfl (Nat.le_of_ble_eq_true rfl) dX2_lose_43 ⟨Nat.zero_le _, Nat.zero_le _⟩ ?_
      have hp2 := hp
      unfold laF at hp2
      rw [if_neg c_2] at hp2
      refine pw_top hp2 ?_
      refine lv_istore (lv' := [(5, .int (-1)), (4, .ref (ro i)), (0, .ref h), (1, .int (nI i)), (2, .int (nI nm)), (3, .int (nI hw))]) hx hb dX2_lose_46 hl (by decide) rfl (fun ls hl => ?_)
      refine lv_iload hx hb dX2_lose_48 (lv_at hl 0 rfl) ?_
      refine lv_iconst (v := -1) hx hb dX2_lose_50 (by decide) ?_
      refine lv_icmp_ne (tgt := 56) hx hb dX2_lose_51 (by decide) (fun c_3 => ?_) (fun c_3 => ?_)
      · exact absurd rfl c_3
      · have _h := c_3
        refine lv_iconst (v := nI 0) hx hb dX2_lose_54 (by decide) ?_
        exact pw_piret hx hb hr (rfl) hlocks dX2_lose_55 (rfl)
    · have _h := c_2
      refine lv_iconst (v := nI 1) hx hb dX2_lose_38 (by decide) ?_
      refine lv_goto (tgt := 43) hx hb dX2_lose_39 (by decide) ?_
      -- c_placeOf
      refine pw_cVp (As := [.int (nI nm), .int (nI 1)]) (rest := []) (wc := [(ro i, .inr (1, [.ref a, .int (nI n), .int (ch)])), (a, .inl (cI, 60, .inl (f)))]) ⟨hx, hb, hml, hown, hts⟩ (c_placeOf l D cI cP cR (ro i) a n ch f (nI nm) (nI 1) (by omega)) (cwV 2 hts gX2_lose_X1_placeOf rfl rfl rfl (by decide +kernel) ⟨Nat.le_of_ble_eq_true rfl, Nat.le_of_ble_eq_true rfl⟩) hK hP hD [2, 3] rfl (by decide) 0 rfl rfl rfl rfl hl.1 rfl (Nat.le_of_ble_eq_true rfl) dX2_lose_43 ⟨Nat.zero_le _, Nat.zero_le _⟩ ?_
      have hp2 := hp
      unfold laF at hp2
      rw [if_pos c_2] at hp2
      refine pw_top hp2 ?_
      refine lv_istore (lv' := [(5, .int (-1)), (4, .ref (ro i)), (0, .ref h), (1, .int (nI i)), (2, .int (nI nm)), (3, .int (nI hw))]) hx hb dX2_lose_46 hl (by decide) rfl (fun ls hl => ?_)
      refine lv_iload hx hb dX2_lose_48 (lv_at hl 0 rfl) ?_
      refine lv_iconst (v := -1) hx hb dX2_lose_50 (by decide) ?_
      refine lv_icmp_ne (tgt := 56) hx hb dX2_lose_51 (by decide) (fun c_4 => ?_) (fun c_4 => ?_)
      · exact absurd rfl c_4
      · have _h := c_4
        refine lv_iconst (v := nI 0) hx hb dX2_lose_54 (by decide) ?_
        exact pw_piret hx hb hr (rfl) hlocks dX2_lose_55 (rfl)
  · exact absurd c_1 (by omega)
set_option maxHeartbeats 4000000 in
set_option maxRecDepth 100000 in
theorem k_lose (l : Launch) (D : va_G) (cI cP cR : ClassId) (h qr qp md : Nat) (r0 r1 r2 r3 : Int32) (ro : Nat → Nat) (i a n : Nat) (ch : Int32) (f : Nat → Int32) (hi : i < 3) (hn : n ≤ 60) (nm hw : Nat) (hnm : nm < 10) (hw2 : hw ≤ 2) (j : Nat) (hj : j < n) (hp : plc f (nI nm) (laF hw) n = nI j) : pw_Mm l yX2_lose wsX2_lose ({ frames := 2, cells := 0, slots := 0, locals := 44 } : Room) D cI cP cR [.ref h, .int (nI i), .int (nI nm), .int (nI hw)] ([(h, .inr (2, [.ref qr, .ref qp, .int (nI md), .int (r0), .int (r1), .int (r2), .int (r3)])), (qr, .inl (cR, 3, .inr (.inr (.inr (.inr (fun i => some (ro i))))))), (ro i, .inr (1, [.ref a, .int (nI n), .int (ch)])), (a, .inl (cI, 60, .inl (f)))]) (fun v w => v = some (.int (nI 1)) ∧ w = [(h, .inr (2, [.ref qr, .ref qp, .int (nI md), .int (r0), .int (r1), .int (r2), .int (r3)])), (qr, .inl (cR, 3, .inr (.inr (.inr (.inr (fun i => some (ro i))))))), (ro i, .inr (1, [.ref a, .int (nI (n - 1)), .int (ch + nI 1)])), (a, .inl (cI, 60, .inl (clsF f j n)))]) := by
  refine pw_ofm (cc := cX2_lose) (maxL := 6) (ret := (some .int)) (own := RX2) (by decide +kernel) rfl rfl (Nat.le_of_ble_eq_true rfl) ?_
  intro p_ e_ s m bel meth cd A hE hK hP hD hA hS ls hl
  obtain ⟨hx, hb, hr, hml, hown, hts, hlocks⟩ := hE
  have hNW := hK.2
  have hl : lv_has ls 6 [(0, .ref h), (1, .int (nI i)), (2, .int (nI nm)), (3, .int (nI hw))] := hl
  refine lv_aload_n hx hb dX2_lose_0 rfl (lv_at hl 0 rfl) ?_
  refine lv_iload_n hx hb dX2_lose_1 rfl (lv_at hl 1 rfl) ?_
  -- c_rowOf_i
  refine pw_cVp (As := [.int (nI i)]) (rest := []) (wc := [(h, .inr (2, [.ref qr, .ref qp, .int (nI md), .int (r0), .int (r1), .int (r2), .int (r3)])), (qr, .inl (cR, 3, .inr (.inr (.inr (.inr (fun i => some (ro i)))))))]) ⟨hx, hb, hml, hown, hts⟩ (c_rowOf_i l D cI cP cR h qr qp md r0 r1 r2 r3 ro i (by omega)) (cwV 1 hts gX2_lose_X2_rowOf rfl rfl rfl (by decide +kernel) ⟨Nat.le_of_ble_eq_true rfl, Nat.le_of_ble_eq_true rfl⟩) hK hP hD [0, 1] rfl (by decide) 0 rfl rfl rfl rfl hl.1 rfl (Nat.le_of_ble_eq_true rfl) dX2_lose_2 ⟨Nat.zero_le _, Nat.zero_le _⟩ ?_
  refine lv_astore (lv' := [(4, .ref (ro i)), (0, .ref h), (1, .int (nI i)), (2, .int (nI nm)), (3, .int (nI hw))]) hx hb dX2_lose_5 hl (by decide) rfl (fun ls hl => ?_)
  refine lv_aload hx hb dX2_lose_7 (lv_at hl 0 rfl) ?_
  refine lv_ifnull hx hb dX2_lose_9 ?_
  refine lv_iload_n hx hb dX2_lose_12 rfl (lv_at hl 3 rfl) ?_
  -- c_isName_t
  refine pw_cSp (As := [.int (nI nm)]) (rest := []) ⟨hx, hb, hml, hown, hts⟩ (c_isName_t l D cI cP cR nm (by omega)) (va_cwS 1 hts gX2_lose_X2_isName rfl rfl rfl (by decide +kernel) ⟨Nat.le_of_ble_eq_true rfl, Nat.le_of_ble_eq_true rfl⟩) hK rfl hl.1 rfl (Nat.le_of_ble_eq_true rfl) dX2_lose_13 ⟨Nat.zero_le _, Nat.zero_le _⟩ ?_
  refine lv_if_eq (tgt := 28) hx hb dX2_lose_16 (by decide) (fun c => absurd c (by decide)) (fun c => ?_)
  refine lv_iload_n hx hb dX2_lose_19 rfl (lv_at hl 4 rfl) ?_
  refine pw_if_lt (tgt := 28) hx hb (by omega) dX2_lose_20 (by decide) ?_
  refine lv_iload_n hx hb dX2_lose_23 rfl (lv_at hl 4 rfl) ?_
  refine lv_iconst (v := nI 2) hx hb dX2_lose_24 (by decide) ?_
  refine pw_icmp_le (tgt := 30) hx hb (by omega) (by omega) dX2_lose_25 (by decide) (fun c_1 => ?_) (fun c_1 => ?_)
  · have _h := c_1
    refine lv_aload hx hb dX2_lose_30 (lv_at hl 0 rfl) ?_
    refine lv_iload_n hx hb dX2_lose_32 rfl (lv_at hl 3 rfl) ?_
    refine lv_iload_n hx hb dX2_lose_33 rfl (lv_at hl 4 rfl) ?_
    refine lv_iconst (v := nI 2) hx hb dX2_lose_34 (by decide) ?_
    refine pw_icmp_ne (tgt := 42) hx hb (by omega) (by omega) dX2_lose_35 (by decide) (fun c_2 => ?_) (fun c_2 => ?_)
    · have _h := c_2
      refine lv_iconst (v := nI 0) hx hb dX2_lose_42 (by decide) ?_
      -- c_placeOf
      refine pw_cVp (As := [.int (nI nm), .int (nI 0)]) (rest := []) (wc := [(ro i, .inr (1, [.ref a, .int (nI n), .int (ch)])), (a, .inl (cI, 60, .inl (f)))]) ⟨hx, hb, hml, hown, hts⟩ (c_placeOf l D cI cP cR (ro i) a n ch f (nI nm) (nI 0) (by omega)) (cwV 2 hts gX2_lose_X1_placeOf rfl rfl rfl (by decide +kernel) ⟨Nat.le_of_ble_eq_true rfl, Nat.le_of_ble_eq_true rfl⟩) hK hP hD [2, 3] rfl (by decide) 0 rfl rfl rfl rfl hl.1 rfl (Nat.le_of_ble_eq_true rfl) dX2_lose_43 ⟨Nat.zero_le _, Nat.zero_le _⟩ ?_
      have hp2 := hp
      unfold laF at hp2
      rw [if_neg c_2] at hp2
      refine pw_top hp2 ?_
      refine lv_istore (lv' := [(5, .int (nI j)), (4, .ref (ro i)), (0, .ref h), (1, .int (nI i)), (2, .int (nI nm)), (3, .int (nI hw))]) hx hb dX2_lose_46 hl (by decide) rfl (fun ls hl => ?_)
      refine lv_iload hx hb dX2_lose_48 (lv_at hl 0 rfl) ?_
      refine lv_iconst (v := -1) hx hb dX2_lose_50 (by decide) ?_
      refine lv_icmp_ne (tgt := 56) hx hb dX2_lose_51 (by decide) (fun c_3 => ?_) (fun c_3 => ?_)
      · have _h := c_3
        refine lv_aload hx hb dX2_lose_56 (lv_at hl 1 rfl) ?_
        refine lv_iload hx hb dX2_lose_58 (lv_at hl 0 rfl) ?_
        -- c_takeAt
        refine pw_cVm (As := [.int (nI j)]) (rest := []) (wc := [(ro i, .inr (1, [.ref a, .int (nI n), .int (ch)])), (a, .inl (cI, 60, .inl (f)))]) (wr := [(h, .inr (2, [.ref qr, .ref qp, .int (nI md), .int (r0), .int (r1), .int (r2), .int (r3)])), (qr, .inl (cR, 3, .inr (.inr (.inr (.inr (fun i => some (ro i)))))))]) ⟨hx, hb, hml, hown, hts⟩ (c_takeAt l D cI cP cR (ro i) a n ch f j (by omega) (by omega)) (cwV 1 hts gX2_lose_X1_takeAt rfl rfl rfl (by decide +kernel) ⟨Nat.le_of_ble_eq_true rfl, Nat.le_of_ble_eq_true rfl⟩) hK hP hD hS hA [2, 3] [0, 1] rfl rfl (by decide) (by decide) (by decide) 0 rfl rfl rfl rfl hl.1 rfl (Nat.le_of_ble_eq_true rfl) dX2_lose_60 ⟨Nat.zero_le _, Nat.zero_le _⟩ (fun v1 w1 H locs hq hP hD hS => ?_)
        rcases hq with ⟨rfl, rfl⟩
        have hP : va_P D vwCl ([(h, .inr (2, [.ref qr, .ref qp, .int (nI md), .int (r0), .int (r1), .int (r2), .int (r3)])), (qr, .inl (cR, 3, .inr (.inr (.inr (.inr (fun i => some (ro i))))))), (ro i, .inr (1, [.ref a, .int (nI (n - 1)), .int (ch + nI 1)])), (a, .inl (cI, 60, .inl (clsF f j n)))]) H := hP
        have hD : va_D A ([(h, .inr (2, [.ref qr, .ref qp, .int (nI md), .int (r0), .int (r1), .int (r2), .int (r3)])), (qr, .inl (cR, 3, .inr (.inr (.inr (.inr (fun i => some (ro i))))))), (ro i, .inr (1, [.ref a, .int (nI (n - 1)), .int (ch + nI 1)])), (a, .inl (cI, 60, .inl (clsF f j n)))]) := hD
        refine W.eq (g2 := F0 m 63 ls [.int (f j)]) rfl ?_
        refine lv_pop hx hb dX2_lose_63 rfl ?_
        refine lv_iconst (v := nI 1) hx hb dX2_lose_64 (by decide) ?_
        have hP := hP.sub (ws' := [(h, .inr (2, [.ref qr, .ref qp, .int (nI md), .int (r0), .int (r1), .int (r2), .int (r3)])), (qr, .inl (cR, 3, .inr (.inr (.inr (.inr (fun i => some (ro i))))))), (ro i, .inr (1, [.ref a, .int (nI (n - 1)), .int (ch + nI 1)])), (a, .inl (cI, 60, .inl (clsF f j n)))]) [0, 1, 2, 3] rfl
        have hD := hD.sub (ws' := [(h, .inr (2, [.ref qr, .ref qp, .int (nI md), .int (r0), .int (r1), .int (r2), .int (r3)])), (qr, .inl (cR, 3, .inr (.inr (.inr (.inr (fun i => some (ro i))))))), (ro i, .inr (1, [.ref a, .int (nI (n - 1)), .int (ch + nI 1)])), (a, .inl (cI, 60, .inl (clsF f j n)))]) [0, 1, 2, 3] (by decide) rfl
        exact pw_iret hx hb hr (rfl) hlocks dX2_lose_65 hS hP hD (⟨rfl, rfl⟩)
      · exact absurd c_3 (pw_nm1 (by omega))
    · have _h := c_2
      refine lv_iconst (v := nI 1) hx hb dX2_lose_38 (by decide) ?_
      refine lv_goto (tgt := 43) hx hb dX2_lose_39 (by decide) ?_
      -- c_placeOf
      refine pw_cVp (As := [.int (nI nm), .int (nI 1)]) (rest := []) (wc := [(ro i, .inr (1, [.ref a, .int (nI n), .int (ch)])), (a, .inl (cI, 60, .inl (f)))]) ⟨hx, hb, hml, hown, hts⟩ (c_placeOf l D cI cP cR (ro i) a n ch f (nI nm) (nI 1) (by omega)) (cwV 2 hts gX2_lose_X1_placeOf rfl rfl rfl (by decide +kernel) ⟨Nat.le_of_ble_eq_true rfl, Nat.le_of_ble_eq_true rfl⟩) hK hP hD [2, 3] rfl (by decide) 0 rfl rfl rfl rfl hl.1 rfl (Nat.le_of_ble_eq_true rfl) dX2_lose_43 ⟨Nat.zero_le _, Nat.zero_le _⟩ ?_
      have hp2 := hp
      unfold laF at hp2
      rw [if_pos c_2] at hp2
      refine pw_top hp2 ?_
      refine lv_istore (lv' := [(5, .int (nI j)), (4, .ref (ro i)), (0, .ref h), (1, .int (nI i)), (2, .int (nI nm)), (3, .int (nI hw))]) hx hb dX2_lose_46 hl (by decide) rfl (fun ls hl => ?_)
      refine lv_iload hx hb dX2_lose_48 (lv_at hl 0 rfl) ?_
      refine lv_iconst (v := -1) hx hb dX2_lose_50 (by decide) ?_
      refine lv_icmp_ne (tgt := 56) hx hb dX2_lose_51 (by decide) (fun c_4 => ?_) (fun c_4 => ?_)
      · have _h := c_4
        refine lv_aload hx hb dX2_lose_56 (lv_at hl 1 rfl) ?_
        refine lv_iload hx hb dX2_lose_58 (lv_at hl 0 rfl) ?_
        -- c_takeAt
        refine pw_cVm (As := [.int (nI j)]) (rest := []) (wc := [(ro i, .inr (1, [.ref a, .int (nI n), .int (ch)])), (a, .inl (cI, 60, .inl (f)))]) (wr := [(h, .inr (2, [.ref qr, .ref qp, .int (nI md), .int (r0), .int (r1), .int (r2), .int (r3)])), (qr, .inl (cR, 3, .inr (.inr (.inr (.inr (fun i => some (ro i)))))))]) ⟨hx, hb, hml, hown, hts⟩ (c_takeAt l D cI cP cR (ro i) a n ch f j (by omega) (by omega)) (cwV 1 hts gX2_lose_X1_takeAt rfl rfl rfl (by decide +kernel) ⟨Nat.le_of_ble_eq_true rfl, Nat.le_of_ble_eq_true rfl⟩) hK hP hD hS hA [2, 3] [0, 1] rfl rfl (by decide) (by decide) (by decide) 0 rfl rfl rfl rfl hl.1 rfl (Nat.le_of_ble_eq_true rfl) dX2_lose_60 ⟨Nat.zero_le _, Nat.zero_le _⟩ (fun v1 w1 H locs hq hP hD hS => ?_)
        rcases hq with ⟨rfl, rfl⟩
        have hP : va_P D vwCl ([(h, .inr (2, [.ref qr, .ref qp, .int (nI md), .int (r0), .int (r1), .int (r2), .int (r3)])), (qr, .inl (cR, 3, .inr (.inr (.inr (.inr (fun i => some (ro i))))))), (ro i, .inr (1, [.ref a, .int (nI (n - 1)), .int (ch + nI 1)])), (a, .inl (cI, 60, .inl (clsF f j n)))]) H := hP
        have hD : va_D A ([(h, .inr (2, [.ref qr, .ref qp, .int (nI md), .int (r0), .int (r1), .int (r2), .int (r3)])), (qr, .inl (cR, 3, .inr (.inr (.inr (.inr (fun i => some (ro i))))))), (ro i, .inr (1, [.ref a, .int (nI (n - 1)), .int (ch + nI 1)])), (a, .inl (cI, 60, .inl (clsF f j n)))]) := hD
        refine W.eq (g2 := F0 m 63 ls [.int (f j)]) rfl ?_
        refine lv_pop hx hb dX2_lose_63 rfl ?_
        refine lv_iconst (v := nI 1) hx hb dX2_lose_64 (by decide) ?_
        have hP := hP.sub (ws' := [(h, .inr (2, [.ref qr, .ref qp, .int (nI md), .int (r0), .int (r1), .int (r2), .int (r3)])), (qr, .inl (cR, 3, .inr (.inr (.inr (.inr (fun i => some (ro i))))))), (ro i, .inr (1, [.ref a, .int (nI (n - 1)), .int (ch + nI 1)])), (a, .inl (cI, 60, .inl (clsF f j n)))]) [0, 1, 2, 3] rfl
        have hD := hD.sub (ws' := [(h, .inr (2, [.ref qr, .ref qp, .int (nI md), .int (r0), .int (r1), .int (r2), .int (r3)])), (qr, .inl (cR, 3, .inr (.inr (.inr (.inr (fun i => some (ro i))))))), (ro i, .inr (1, [.ref a, .int (nI (n - 1)), .int (ch + nI 1)])), (a, .inl (cI, 60, .inl (clsF f j n)))]) [0, 1, 2, 3] (by decide) rfl
        exact pw_iret hx hb hr (rfl) hlocks dX2_lose_65 hS hP hD (⟨rfl, rfl⟩)
      · exact absurd c_4 (pw_nm1 (by omega))
  · exact absurd c_1 (by omega)
set_option maxHeartbeats 4000000 in
set_option maxRecDepth 100000 in
theorem k_clear_x (l : Launch) (D : va_G) (cI cP cR : ClassId) (h qr qp md : Nat) (r0 r1 r2 r3 : Int32) (ro : Nat → Nat) (row : Int32) (hx_row : ¬ (0 ≤ row ∧ row < nI 3)) : pw_Mp l yX2_clear wsX2_clear ({ frames := 2, cells := 0, slots := 0, locals := 46 } : Room) D cI cP cR [.ref h, .int (row)] ([(h, .inr (2, [.ref qr, .ref qp, .int (nI md), .int (r0), .int (r1), .int (r2), .int (r3)])), (qr, .inl (cR, 3, .inr (.inr (.inr (.inr (fun i => some (ro i)))))))]) (.int (-1)) := by
  refine pw_ofp (cc := cX2_clear) (maxL := 4) (ret := (some .int)) (own := RX2) (by decide +kernel) rfl rfl (Nat.le_of_ble_eq_true rfl) ?_
  intro p_ e_ s m bel meth cd hE hK hP hD ls hl
  obtain ⟨hx, hb, hr, hml, hown, hts, hlocks⟩ := hE
  have hNW := hK.2
  have hl : lv_has ls 4 [(0, .ref h), (1, .int (row))] := hl
  refine lv_aload_n hx hb dX2_clear_0 rfl (lv_at hl 0 rfl) ?_
  refine lv_iload_n hx hb dX2_clear_1 rfl (lv_at hl 1 rfl) ?_
  -- c_rowOf_n
  refine pw_cVp (As := [.int (row)]) (rest := []) (wc := [(h, .inr (2, [.ref qr, .ref qp, .int (nI md), .int (r0), .int (r1), .int (r2), .int (r3)])), (qr, .inl (cR, 3, .inr (.inr (.inr (.inr (fun i => some (ro i)))))))]) ⟨hx, hb, hml, hown, hts⟩ (c_rowOf_n l D cI cP cR h qr qp md r0 r1 r2 r3 ro row hx_row) (cwV 1 hts gX2_clear_X2_rowOf rfl rfl rfl (by decide +kernel) ⟨Nat.le_of_ble_eq_true rfl, Nat.le_of_ble_eq_true rfl⟩) hK hP hD [0, 1] rfl (by decide) 0 rfl rfl rfl rfl hl.1 rfl (Nat.le_of_ble_eq_true rfl) dX2_clear_2 ⟨Nat.zero_le _, Nat.zero_le _⟩ ?_
  refine lv_astore_nN (lv' := [(2, .null), (0, .ref h), (1, .int (row))]) hx hb dX2_clear_5 rfl hl (by decide) rfl (fun ls hl => ?_)
  refine lv_aload_nN hx hb dX2_clear_6 rfl (lv_at hl 0 rfl) ?_
  refine lv_ifnonnullN hx hb dX2_clear_7 ?_
  refine lv_iconst (v := -1) hx hb dX2_clear_10 (by decide) ?_
  exact pw_piret hx hb hr (rfl) hlocks dX2_clear_11 (rfl)
set_option maxHeartbeats 4000000 in
set_option maxRecDepth 100000 in
theorem k_turn_x (l : Launch) (D : va_G) (cI cP cR : ClassId) (h qr qp md : Nat) (r0 r1 r2 r3 : Int32) (ro : Nat → Nat) (row : Int32) (hx_row : ¬ (0 ≤ row ∧ row < nI 3)) : pw_Mp l yX2_turn wsX2_turn ({ frames := 2, cells := 0, slots := 0, locals := 46 } : Room) D cI cP cR [.ref h, .int (row)] ([(h, .inr (2, [.ref qr, .ref qp, .int (nI md), .int (r0), .int (r1), .int (r2), .int (r3)])), (qr, .inl (cR, 3, .inr (.inr (.inr (.inr (fun i => some (ro i)))))))]) (.int (-1)) := by
  refine pw_ofp (cc := cX2_turn) (maxL := 3) (ret := (some .int)) (own := RX2) (by decide +kernel) rfl rfl (Nat.le_of_ble_eq_true rfl) ?_
  intro p_ e_ s m bel meth cd hE hK hP hD ls hl
  obtain ⟨hx, hb, hr, hml, hown, hts, hlocks⟩ := hE
  have hNW := hK.2
  have hl : lv_has ls 3 [(0, .ref h), (1, .int (row))] := hl
  refine lv_aload_n hx hb dX2_turn_0 rfl (lv_at hl 0 rfl) ?_
  refine lv_iload_n hx hb dX2_turn_1 rfl (lv_at hl 1 rfl) ?_
  -- c_rowOf_n
  refine pw_cVp (As := [.int (row)]) (rest := []) (wc := [(h, .inr (2, [.ref qr, .ref qp, .int (nI md), .int (r0), .int (r1), .int (r2), .int (r3)])), (qr, .inl (cR, 3, .inr (.inr (.inr (.inr (fun i => some (ro i)))))))]) ⟨hx, hb, hml, hown, hts⟩ (c_rowOf_n l D cI cP cR h qr qp md r0 r1 r2 r3 ro row hx_row) (cwV 1 hts gX2_turn_X2_rowOf rfl rfl rfl (by decide +kernel) ⟨Nat.le_of_ble_eq_true rfl, Nat.le_of_ble_eq_true rfl⟩) hK hP hD [0, 1] rfl (by decide) 0 rfl rfl rfl rfl hl.1 rfl (Nat.le_of_ble_eq_true rfl) dX2_turn_2 ⟨Nat.zero_le _, Nat.zero_le _⟩ ?_
  refine lv_astore_nN (lv' := [(2, .null), (0, .ref h), (1, .int (row))]) hx hb dX2_turn_5 rfl hl (by decide) rfl (fun ls hl => ?_)
  refine lv_aload_nN hx hb dX2_turn_6 rfl (lv_at hl 0 rfl) ?_
  refine lv_ifnonnullN hx hb dX2_turn_7 ?_
  refine lv_iconst (v := -1) hx hb dX2_turn_10 (by decide) ?_
  exact pw_piret hx hb hr (rfl) hlocks dX2_turn_11 (rfl)
set_option maxHeartbeats 4000000 in
set_option maxRecDepth 100000 in
theorem k_prune_x (l : Launch) (D : va_G) (cI cP cR : ClassId) (h qr qp md : Nat) (r0 r1 r2 r3 : Int32) (ro : Nat → Nat) (row : Int32) (hx_row : ¬ (0 ≤ row ∧ row < nI 3)) : pw_Mp l yX2_prune wsX2_prune ({ frames := 2, cells := 0, slots := 0, locals := 46 } : Room) D cI cP cR [.ref h, .int (row)] ([(h, .inr (2, [.ref qr, .ref qp, .int (nI md), .int (r0), .int (r1), .int (r2), .int (r3)])), (qr, .inl (cR, 3, .inr (.inr (.inr (.inr (fun i => some (ro i)))))))]) (.int (-1)) := by
  refine pw_ofp (cc := cX2_prune) (maxL := 3) (ret := (some .int)) (own := RX2) (by decide +kernel) rfl rfl (Nat.le_of_ble_eq_true rfl) ?_
  intro p_ e_ s m bel meth cd hE hK hP hD ls hl
  obtain ⟨hx, hb, hr, hml, hown, hts, hlocks⟩ := hE
  have hNW := hK.2
  have hl : lv_has ls 3 [(0, .ref h), (1, .int (row))] := hl
  refine lv_aload_n hx hb dX2_prune_0 rfl (lv_at hl 0 rfl) ?_
  refine lv_iload_n hx hb dX2_prune_1 rfl (lv_at hl 1 rfl) ?_
  -- c_rowOf_n
  refine pw_cVp (As := [.int (row)]) (rest := []) (wc := [(h, .inr (2, [.ref qr, .ref qp, .int (nI md), .int (r0), .int (r1), .int (r2), .int (r3)])), (qr, .inl (cR, 3, .inr (.inr (.inr (.inr (fun i => some (ro i)))))))]) ⟨hx, hb, hml, hown, hts⟩ (c_rowOf_n l D cI cP cR h qr qp md r0 r1 r2 r3 ro row hx_row) (cwV 1 hts gX2_prune_X2_rowOf rfl rfl rfl (by decide +kernel) ⟨Nat.le_of_ble_eq_true rfl, Nat.le_of_ble_eq_true rfl⟩) hK hP hD [0, 1] rfl (by decide) 0 rfl rfl rfl rfl hl.1 rfl (Nat.le_of_ble_eq_true rfl) dX2_prune_2 ⟨Nat.zero_le _, Nat.zero_le _⟩ ?_
  refine lv_astore_nN (lv' := [(2, .null), (0, .ref h), (1, .int (row))]) hx hb dX2_prune_5 rfl hl (by decide) rfl (fun ls hl => ?_)
  refine lv_aload_nN hx hb dX2_prune_6 rfl (lv_at hl 0 rfl) ?_
  refine lv_ifnonnullN hx hb dX2_prune_7 ?_
  refine lv_iconst (v := -1) hx hb dX2_prune_10 (by decide) ?_
  exact pw_piret hx hb hr (rfl) hlocks dX2_prune_11 (rfl)
set_option maxHeartbeats 4000000 in
set_option maxRecDepth 100000 in
theorem k_size_x (l : Launch) (D : va_G) (cI cP cR : ClassId) (h qr qp md : Nat) (r0 r1 r2 r3 : Int32) (ro : Nat → Nat) (row : Int32) (hx_row : ¬ (0 ≤ row ∧ row < nI 3)) : pw_Mp l yX2_size wsX2_size ({ frames := 2, cells := 0, slots := 0, locals := 46 } : Room) D cI cP cR [.ref h, .int (row)] ([(h, .inr (2, [.ref qr, .ref qp, .int (nI md), .int (r0), .int (r1), .int (r2), .int (r3)])), (qr, .inl (cR, 3, .inr (.inr (.inr (.inr (fun i => some (ro i)))))))]) (.int (-1)) := by
  refine pw_ofp (cc := cX2_size) (maxL := 3) (ret := (some .int)) (own := RX2) (by decide +kernel) rfl rfl (Nat.le_of_ble_eq_true rfl) ?_
  intro p_ e_ s m bel meth cd hE hK hP hD ls hl
  obtain ⟨hx, hb, hr, hml, hown, hts, hlocks⟩ := hE
  have hNW := hK.2
  have hl : lv_has ls 3 [(0, .ref h), (1, .int (row))] := hl
  refine lv_aload_n hx hb dX2_size_0 rfl (lv_at hl 0 rfl) ?_
  refine lv_iload_n hx hb dX2_size_1 rfl (lv_at hl 1 rfl) ?_
  -- c_rowOf_n
  refine pw_cVp (As := [.int (row)]) (rest := []) (wc := [(h, .inr (2, [.ref qr, .ref qp, .int (nI md), .int (r0), .int (r1), .int (r2), .int (r3)])), (qr, .inl (cR, 3, .inr (.inr (.inr (.inr (fun i => some (ro i)))))))]) ⟨hx, hb, hml, hown, hts⟩ (c_rowOf_n l D cI cP cR h qr qp md r0 r1 r2 r3 ro row hx_row) (cwV 1 hts gX2_size_X2_rowOf rfl rfl rfl (by decide +kernel) ⟨Nat.le_of_ble_eq_true rfl, Nat.le_of_ble_eq_true rfl⟩) hK hP hD [0, 1] rfl (by decide) 0 rfl rfl rfl rfl hl.1 rfl (Nat.le_of_ble_eq_true rfl) dX2_size_2 ⟨Nat.zero_le _, Nat.zero_le _⟩ ?_
  refine lv_astore_nN (lv' := [(2, .null), (0, .ref h), (1, .int (row))]) hx hb dX2_size_5 rfl hl (by decide) rfl (fun ls hl => ?_)
  refine lv_aload_nN hx hb dX2_size_6 rfl (lv_at hl 0 rfl) ?_
  refine lv_ifnonnullN hx hb dX2_size_7 ?_
  refine lv_iconst (v := -1) hx hb dX2_size_10 (by decide) ?_
  exact pw_piret hx hb hr (rfl) hlocks dX2_size_11 (rfl)
set_option maxHeartbeats 4000000 in
set_option maxRecDepth 100000 in
theorem k_sum_x (l : Launch) (D : va_G) (cI cP cR : ClassId) (h qr qp md : Nat) (r0 r1 r2 r3 : Int32) (ro : Nat → Nat) (row : Int32) (hx_row : ¬ (0 ≤ row ∧ row < nI 3)) : pw_Mp l yX2_sum wsX2_sum ({ frames := 2, cells := 0, slots := 0, locals := 46 } : Room) D cI cP cR [.ref h, .int (row)] ([(h, .inr (2, [.ref qr, .ref qp, .int (nI md), .int (r0), .int (r1), .int (r2), .int (r3)])), (qr, .inl (cR, 3, .inr (.inr (.inr (.inr (fun i => some (ro i)))))))]) (.int (-1)) := by
  refine pw_ofp (cc := cX2_sum) (maxL := 3) (ret := (some .int)) (own := RX2) (by decide +kernel) rfl rfl (Nat.le_of_ble_eq_true rfl) ?_
  intro p_ e_ s m bel meth cd hE hK hP hD ls hl
  obtain ⟨hx, hb, hr, hml, hown, hts, hlocks⟩ := hE
  have hNW := hK.2
  have hl : lv_has ls 3 [(0, .ref h), (1, .int (row))] := hl
  refine lv_aload_n hx hb dX2_sum_0 rfl (lv_at hl 0 rfl) ?_
  refine lv_iload_n hx hb dX2_sum_1 rfl (lv_at hl 1 rfl) ?_
  -- c_rowOf_n
  refine pw_cVp (As := [.int (row)]) (rest := []) (wc := [(h, .inr (2, [.ref qr, .ref qp, .int (nI md), .int (r0), .int (r1), .int (r2), .int (r3)])), (qr, .inl (cR, 3, .inr (.inr (.inr (.inr (fun i => some (ro i)))))))]) ⟨hx, hb, hml, hown, hts⟩ (c_rowOf_n l D cI cP cR h qr qp md r0 r1 r2 r3 ro row hx_row) (cwV 1 hts gX2_sum_X2_rowOf rfl rfl rfl (by decide +kernel) ⟨Nat.le_of_ble_eq_true rfl, Nat.le_of_ble_eq_true rfl⟩) hK hP hD [0, 1] rfl (by decide) 0 rfl rfl rfl rfl hl.1 rfl (Nat.le_of_ble_eq_true rfl) dX2_sum_2 ⟨Nat.zero_le _, Nat.zero_le _⟩ ?_
  refine lv_astore_nN (lv' := [(2, .null), (0, .ref h), (1, .int (row))]) hx hb dX2_sum_5 rfl hl (by decide) rfl (fun ls hl => ?_)
  refine lv_aload_nN hx hb dX2_sum_6 rfl (lv_at hl 0 rfl) ?_
  refine lv_ifnonnullN hx hb dX2_sum_7 ?_
  refine lv_iconst (v := -1) hx hb dX2_sum_10 (by decide) ?_
  exact pw_piret hx hb hr (rfl) hlocks dX2_sum_11 (rfl)
theorem hi_X2_clear_1 : ∀ w ∈ u_ws RX1 TX1 3, w ∈ wsX2_clear := by decide +kernel
set_option maxHeartbeats 4000000 in
set_option maxRecDepth 100000 in
theorem k_clear (l : Launch) (D : va_G) (cI cP cR : ClassId) (h qr qp md : Nat) (r0 r1 r2 r3 : Int32) (ro : Nat → Nat) (i a n : Nat) (ch : Int32) (f : Nat → Int32) (hi : i < 3) (hn : n ≤ 60) : pw_Mm l yX2_clear wsX2_clear ({ frames := 2, cells := 0, slots := 0, locals := 46 } : Room) D cI cP cR [.ref h, .int (nI i)] ([(h, .inr (2, [.ref qr, .ref qp, .int (nI md), .int (r0), .int (r1), .int (r2), .int (r3)])), (qr, .inl (cR, 3, .inr (.inr (.inr (.inr (fun i => some (ro i))))))), (ro i, .inr (1, [.ref a, .int (nI n), .int (ch)])), (a, .inl (cI, 60, .inl (f)))]) (fun v w => v = some (.int (nI n)) ∧ w = [(h, .inr (2, [.ref qr, .ref qp, .int (nI md), .int (r0), .int (r1), .int (r2), .int (r3)])), (qr, .inl (cR, 3, .inr (.inr (.inr (.inr (fun i => some (ro i))))))), (ro i, .inr (1, [.ref a, .int (nI 0), .int (if 0 = n then ch else ch + nI 1)])), (a, .inl (cI, 60, .inl (f)))]) := by
  refine pw_ofm (cc := cX2_clear) (maxL := 4) (ret := (some .int)) (own := RX2) (by decide +kernel) rfl rfl (Nat.le_of_ble_eq_true rfl) ?_
  intro p_ e_ s m bel meth cd A hE hK hP hD hA hS ls hl
  obtain ⟨hx, hb, hr, hml, hown, hts, hlocks⟩ := hE
  have hNW := hK.2
  have hl : lv_has ls 4 [(0, .ref h), (1, .int (nI i))] := hl
  refine lv_aload_n hx hb dX2_clear_0 rfl (lv_at hl 0 rfl) ?_
  refine lv_iload_n hx hb dX2_clear_1 rfl (lv_at hl 1 rfl) ?_
  -- c_rowOf_i
  refine pw_cVp (As := [.int (nI i)]) (rest := []) (wc := [(h, .inr (2, [.ref qr, .ref qp, .int (nI md), .int (r0), .int (r1), .int (r2), .int (r3)])), (qr, .inl (cR, 3, .inr (.inr (.inr (.inr (fun i => some (ro i)))))))]) ⟨hx, hb, hml, hown, hts⟩ (c_rowOf_i l D cI cP cR h qr qp md r0 r1 r2 r3 ro i (by omega)) (cwV 1 hts gX2_clear_X2_rowOf rfl rfl rfl (by decide +kernel) ⟨Nat.le_of_ble_eq_true rfl, Nat.le_of_ble_eq_true rfl⟩) hK hP hD [0, 1] rfl (by decide) 0 rfl rfl rfl rfl hl.1 rfl (Nat.le_of_ble_eq_true rfl) dX2_clear_2 ⟨Nat.zero_le _, Nat.zero_le _⟩ ?_
  refine lv_astore_n (lv' := [(2, .ref (ro i)), (0, .ref h), (1, .int (nI i))]) hx hb dX2_clear_5 rfl hl (by decide) rfl (fun ls hl => ?_)
  refine lv_aload_n hx hb dX2_clear_6 rfl (lv_at hl 0 rfl) ?_
  refine lv_ifnonnull (tgt := 12) hx hb dX2_clear_7 (by decide) ?_
  refine lv_aload_n hx hb dX2_clear_12 rfl (lv_at hl 0 rfl) ?_
  refine va_getN (D := D) (ci := 1) (v := .int (nI n)) (C := RX1) (T := TX1) (N := 3) hx hb hts hi_X2_clear_1 hown hK.1 hP 2 rfl rfl 1 (by decide) (va_Nw.use rfl hNW.1) (fun _ h9 => h9) rfl dX2_clear_13 ?_
  refine lv_istore_n (lv' := [(3, .int (nI n)), (2, .ref (ro i)), (0, .ref h), (1, .int (nI i))]) hx hb dX2_clear_16 rfl hl (by decide) rfl (fun ls hl => ?_)
  refine lv_aload_n hx hb dX2_clear_17 rfl (lv_at hl 1 rfl) ?_
  refine lv_iconst (v := nI 0) hx hb dX2_clear_18 (by decide) ?_
  -- c_keepFirst
  refine pw_cVm (As := [.int (nI 0)]) (rest := []) (wc := [(ro i, .inr (1, [.ref a, .int (nI n), .int (ch)])), (a, .inl (cI, 60, .inl (f)))]) (wr := [(h, .inr (2, [.ref qr, .ref qp, .int (nI md), .int (r0), .int (r1), .int (r2), .int (r3)])), (qr, .inl (cR, 3, .inr (.inr (.inr (.inr (fun i => some (ro i)))))))]) ⟨hx, hb, hml, hown, hts⟩ (c_keepFirst l D cI cP cR (ro i) a n ch f 0 (by omega) (by omega)) (cwV 1 hts gX2_clear_X1_keepFirst rfl rfl rfl (by decide +kernel) ⟨Nat.le_of_ble_eq_true rfl, Nat.le_of_ble_eq_true rfl⟩) hK hP hD hS hA [2, 3] [0, 1] rfl rfl (by decide) (by decide) (by decide) 0 rfl rfl rfl rfl hl.1 rfl (Nat.le_of_ble_eq_true rfl) dX2_clear_19 ⟨Nat.zero_le _, Nat.zero_le _⟩ (fun v1 w1 H locs hq hP hD hS => ?_)
  rcases hq with ⟨rfl, rfl⟩
  have hP : va_P D vwCl ([(h, .inr (2, [.ref qr, .ref qp, .int (nI md), .int (r0), .int (r1), .int (r2), .int (r3)])), (qr, .inl (cR, 3, .inr (.inr (.inr (.inr (fun i => some (ro i))))))), (ro i, .inr (1, [.ref a, .int (nI 0), .int (if 0 = n then ch else ch + nI 1)])), (a, .inl (cI, 60, .inl (f)))]) H := hP
  have hD : va_D A ([(h, .inr (2, [.ref qr, .ref qp, .int (nI md), .int (r0), .int (r1), .int (r2), .int (r3)])), (qr, .inl (cR, 3, .inr (.inr (.inr (.inr (fun i => some (ro i))))))), (ro i, .inr (1, [.ref a, .int (nI 0), .int (if 0 = n then ch else ch + nI 1)])), (a, .inl (cI, 60, .inl (f)))]) := hD
  refine W.eq (g2 := F0 m 22 ls []) rfl ?_
  refine lv_iload_n hx hb dX2_clear_22 rfl (lv_at hl 0 rfl) ?_
  have hP := hP.sub (ws' := [(h, .inr (2, [.ref qr, .ref qp, .int (nI md), .int (r0), .int (r1), .int (r2), .int (r3)])), (qr, .inl (cR, 3, .inr (.inr (.inr (.inr (fun i => some (ro i))))))), (ro i, .inr (1, [.ref a, .int (nI 0), .int (if 0 = n then ch else ch + nI 1)])), (a, .inl (cI, 60, .inl (f)))]) [0, 1, 2, 3] rfl
  have hD := hD.sub (ws' := [(h, .inr (2, [.ref qr, .ref qp, .int (nI md), .int (r0), .int (r1), .int (r2), .int (r3)])), (qr, .inl (cR, 3, .inr (.inr (.inr (.inr (fun i => some (ro i))))))), (ro i, .inr (1, [.ref a, .int (nI 0), .int (if 0 = n then ch else ch + nI 1)])), (a, .inl (cI, 60, .inl (f)))]) [0, 1, 2, 3] (by decide) rfl
  exact pw_iret hx hb hr (rfl) hlocks dX2_clear_23 hS hP hD (⟨rfl, rfl⟩)
theorem hi_X2_turn_1 : ∀ w ∈ u_ws RX1 TX1 3, w ∈ wsX2_turn := by decide +kernel
set_option maxHeartbeats 4000000 in
set_option maxRecDepth 100000 in
theorem k_turn (l : Launch) (D : va_G) (cI cP cR : ClassId) (h qr qp md : Nat) (r0 r1 r2 r3 : Int32) (ro : Nat → Nat) (i a n : Nat) (ch : Int32) (f : Nat → Int32) (hi : i < 3) (hn : n ≤ 60) : pw_Mm l yX2_turn wsX2_turn ({ frames := 2, cells := 0, slots := 0, locals := 46 } : Room) D cI cP cR [.ref h, .int (nI i)] ([(h, .inr (2, [.ref qr, .ref qp, .int (nI md), .int (r0), .int (r1), .int (r2), .int (r3)])), (qr, .inl (cR, 3, .inr (.inr (.inr (.inr (fun i => some (ro i))))))), (ro i, .inr (1, [.ref a, .int (nI n), .int (ch)])), (a, .inl (cI, 60, .inl (f)))]) (fun v w => v = some (.int (nI n)) ∧ w = [(h, .inr (2, [.ref qr, .ref qp, .int (nI md), .int (r0), .int (r1), .int (r2), .int (r3)])), (qr, .inl (cR, 3, .inr (.inr (.inr (.inr (fun i => some (ro i))))))), (ro i, .inr (1, [.ref a, .int (nI n), .int (ch)])), (a, .inl (cI, 60, .inl (turF f n)))]) := by
  refine pw_ofm (cc := cX2_turn) (maxL := 3) (ret := (some .int)) (own := RX2) (by decide +kernel) rfl rfl (Nat.le_of_ble_eq_true rfl) ?_
  intro p_ e_ s m bel meth cd A hE hK hP hD hA hS ls hl
  obtain ⟨hx, hb, hr, hml, hown, hts, hlocks⟩ := hE
  have hNW := hK.2
  have hl : lv_has ls 3 [(0, .ref h), (1, .int (nI i))] := hl
  refine lv_aload_n hx hb dX2_turn_0 rfl (lv_at hl 0 rfl) ?_
  refine lv_iload_n hx hb dX2_turn_1 rfl (lv_at hl 1 rfl) ?_
  -- c_rowOf_i
  refine pw_cVp (As := [.int (nI i)]) (rest := []) (wc := [(h, .inr (2, [.ref qr, .ref qp, .int (nI md), .int (r0), .int (r1), .int (r2), .int (r3)])), (qr, .inl (cR, 3, .inr (.inr (.inr (.inr (fun i => some (ro i)))))))]) ⟨hx, hb, hml, hown, hts⟩ (c_rowOf_i l D cI cP cR h qr qp md r0 r1 r2 r3 ro i (by omega)) (cwV 1 hts gX2_turn_X2_rowOf rfl rfl rfl (by decide +kernel) ⟨Nat.le_of_ble_eq_true rfl, Nat.le_of_ble_eq_true rfl⟩) hK hP hD [0, 1] rfl (by decide) 0 rfl rfl rfl rfl hl.1 rfl (Nat.le_of_ble_eq_true rfl) dX2_turn_2 ⟨Nat.zero_le _, Nat.zero_le _⟩ ?_
  refine lv_astore_n (lv' := [(2, .ref (ro i)), (0, .ref h), (1, .int (nI i))]) hx hb dX2_turn_5 rfl hl (by decide) rfl (fun ls hl => ?_)
  refine lv_aload_n hx hb dX2_turn_6 rfl (lv_at hl 0 rfl) ?_
  refine lv_ifnonnull (tgt := 12) hx hb dX2_turn_7 (by decide) ?_
  refine lv_aload_n hx hb dX2_turn_12 rfl (lv_at hl 0 rfl) ?_
  -- c_turnRound
  refine pw_cVm (As := []) (rest := []) (wc := [(ro i, .inr (1, [.ref a, .int (nI n), .int (ch)])), (a, .inl (cI, 60, .inl (f)))]) (wr := [(h, .inr (2, [.ref qr, .ref qp, .int (nI md), .int (r0), .int (r1), .int (r2), .int (r3)])), (qr, .inl (cR, 3, .inr (.inr (.inr (.inr (fun i => some (ro i)))))))]) ⟨hx, hb, hml, hown, hts⟩ (c_turnRound l D cI cP cR (ro i) a n ch f (by omega)) (cwV 0 hts gX2_turn_X1_turnRound rfl rfl rfl (by decide +kernel) ⟨Nat.le_of_ble_eq_true rfl, Nat.le_of_ble_eq_true rfl⟩) hK hP hD hS hA [2, 3] [0, 1] rfl rfl (by decide) (by decide) (by decide) 0 rfl rfl rfl rfl hl.1 rfl (Nat.le_of_ble_eq_true rfl) dX2_turn_13 ⟨Nat.zero_le _, Nat.zero_le _⟩ (fun v1 w1 H locs hq hP hD hS => ?_)
  rcases hq with ⟨rfl, rfl⟩
  have hP : va_P D vwCl ([(h, .inr (2, [.ref qr, .ref qp, .int (nI md), .int (r0), .int (r1), .int (r2), .int (r3)])), (qr, .inl (cR, 3, .inr (.inr (.inr (.inr (fun i => some (ro i))))))), (ro i, .inr (1, [.ref a, .int (nI n), .int (ch)])), (a, .inl (cI, 60, .inl (turF f n)))]) H := hP
  have hD : va_D A ([(h, .inr (2, [.ref qr, .ref qp, .int (nI md), .int (r0), .int (r1), .int (r2), .int (r3)])), (qr, .inl (cR, 3, .inr (.inr (.inr (.inr (fun i => some (ro i))))))), (ro i, .inr (1, [.ref a, .int (nI n), .int (ch)])), (a, .inl (cI, 60, .inl (turF f n)))]) := hD
  refine W.eq (g2 := F0 m 16 ls []) rfl ?_
  refine lv_aload_n hx hb dX2_turn_16 rfl (lv_at hl 0 rfl) ?_
  refine va_getN (D := D) (ci := 1) (v := .int (nI n)) (C := RX1) (T := TX1) (N := 3) hx hb hts hi_X2_turn_1 hown hK.1 hP 2 rfl rfl 1 (by decide) (va_Nw.use rfl hNW.1) (fun _ h9 => h9) rfl dX2_turn_17 ?_
  have hP := hP.sub (ws' := [(h, .inr (2, [.ref qr, .ref qp, .int (nI md), .int (r0), .int (r1), .int (r2), .int (r3)])), (qr, .inl (cR, 3, .inr (.inr (.inr (.inr (fun i => some (ro i))))))), (ro i, .inr (1, [.ref a, .int (nI n), .int (ch)])), (a, .inl (cI, 60, .inl (turF f n)))]) [0, 1, 2, 3] rfl
  have hD := hD.sub (ws' := [(h, .inr (2, [.ref qr, .ref qp, .int (nI md), .int (r0), .int (r1), .int (r2), .int (r3)])), (qr, .inl (cR, 3, .inr (.inr (.inr (.inr (fun i => some (ro i))))))), (ro i, .inr (1, [.ref a, .int (nI n), .int (ch)])), (a, .inl (cI, 60, .inl (turF f n)))]) [0, 1, 2, 3] (by decide) rfl
  exact pw_iret hx hb hr (rfl) hlocks dX2_turn_20 hS hP hD (⟨rfl, rfl⟩)
set_option maxHeartbeats 4000000 in
set_option maxRecDepth 100000 in
theorem k_prune (l : Launch) (D : va_G) (cI cP cR : ClassId) (h qr qp md : Nat) (r0 r1 r2 r3 : Int32) (ro : Nat → Nat) (i a n : Nat) (ch : Int32) (f : Nat → Int32) (hi : i < 3) (hn : n ≤ 60) : pw_Mm l yX2_prune wsX2_prune ({ frames := 2, cells := 0, slots := 0, locals := 46 } : Room) D cI cP cR [.ref h, .int (nI i)] ([(h, .inr (2, [.ref qr, .ref qp, .int (nI md), .int (r0), .int (r1), .int (r2), .int (r3)])), (qr, .inl (cR, 3, .inr (.inr (.inr (.inr (fun i => some (ro i))))))), (ro i, .inr (1, [.ref a, .int (nI n), .int (ch)])), (a, .inl (cI, 60, .inl (f)))]) (fun v w => v = some (.int (nI (n - (prF f n).1))) ∧ w = [(h, .inr (2, [.ref qr, .ref qp, .int (nI md), .int (r0), .int (r1), .int (r2), .int (r3)])), (qr, .inl (cR, 3, .inr (.inr (.inr (.inr (fun i => some (ro i))))))), (ro i, .inr (1, [.ref a, .int (nI ((prF f n).1)), .int (if (prF f n).1 = n then ch else ch + nI 1)])), (a, .inl (cI, 60, .inl ((prF f n).2.2)))]) := by
  refine pw_ofm (cc := cX2_prune) (maxL := 3) (ret := (some .int)) (own := RX2) (by decide +kernel) rfl rfl (Nat.le_of_ble_eq_true rfl) ?_
  intro p_ e_ s m bel meth cd A hE hK hP hD hA hS ls hl
  obtain ⟨hx, hb, hr, hml, hown, hts, hlocks⟩ := hE
  have hNW := hK.2
  have hl : lv_has ls 3 [(0, .ref h), (1, .int (nI i))] := hl
  refine lv_aload_n hx hb dX2_prune_0 rfl (lv_at hl 0 rfl) ?_
  refine lv_iload_n hx hb dX2_prune_1 rfl (lv_at hl 1 rfl) ?_
  -- c_rowOf_i
  refine pw_cVp (As := [.int (nI i)]) (rest := []) (wc := [(h, .inr (2, [.ref qr, .ref qp, .int (nI md), .int (r0), .int (r1), .int (r2), .int (r3)])), (qr, .inl (cR, 3, .inr (.inr (.inr (.inr (fun i => some (ro i)))))))]) ⟨hx, hb, hml, hown, hts⟩ (c_rowOf_i l D cI cP cR h qr qp md r0 r1 r2 r3 ro i (by omega)) (cwV 1 hts gX2_prune_X2_rowOf rfl rfl rfl (by decide +kernel) ⟨Nat.le_of_ble_eq_true rfl, Nat.le_of_ble_eq_true rfl⟩) hK hP hD [0, 1] rfl (by decide) 0 rfl rfl rfl rfl hl.1 rfl (Nat.le_of_ble_eq_true rfl) dX2_prune_2 ⟨Nat.zero_le _, Nat.zero_le _⟩ ?_
  refine lv_astore_n (lv' := [(2, .ref (ro i)), (0, .ref h), (1, .int (nI i))]) hx hb dX2_prune_5 rfl hl (by decide) rfl (fun ls hl => ?_)
  refine lv_aload_n hx hb dX2_prune_6 rfl (lv_at hl 0 rfl) ?_
  refine lv_ifnonnull (tgt := 12) hx hb dX2_prune_7 (by decide) ?_
  refine lv_aload_n hx hb dX2_prune_12 rfl (lv_at hl 0 rfl) ?_
  -- c_takeRepeats
  refine pw_cVm (As := []) (rest := []) (wc := [(ro i, .inr (1, [.ref a, .int (nI n), .int (ch)])), (a, .inl (cI, 60, .inl (f)))]) (wr := [(h, .inr (2, [.ref qr, .ref qp, .int (nI md), .int (r0), .int (r1), .int (r2), .int (r3)])), (qr, .inl (cR, 3, .inr (.inr (.inr (.inr (fun i => some (ro i)))))))]) ⟨hx, hb, hml, hown, hts⟩ (c_takeRepeats l D cI cP cR (ro i) a n ch f (by omega)) (cwV 0 hts gX2_prune_X1_takeRepeats rfl rfl rfl (by decide +kernel) ⟨Nat.le_of_ble_eq_true rfl, Nat.le_of_ble_eq_true rfl⟩) hK hP hD hS hA [2, 3] [0, 1] rfl rfl (by decide) (by decide) (by decide) 0 rfl rfl rfl rfl hl.1 rfl (Nat.le_of_ble_eq_true rfl) dX2_prune_13 ⟨Nat.zero_le _, Nat.zero_le _⟩ (fun v1 w1 H locs hq hP hD hS => ?_)
  rcases hq with ⟨rfl, rfl⟩
  have hP : va_P D vwCl ([(h, .inr (2, [.ref qr, .ref qp, .int (nI md), .int (r0), .int (r1), .int (r2), .int (r3)])), (qr, .inl (cR, 3, .inr (.inr (.inr (.inr (fun i => some (ro i))))))), (ro i, .inr (1, [.ref a, .int (nI ((prF f n).1)), .int (if (prF f n).1 = n then ch else ch + nI 1)])), (a, .inl (cI, 60, .inl ((prF f n).2.2)))]) H := hP
  have hD : va_D A ([(h, .inr (2, [.ref qr, .ref qp, .int (nI md), .int (r0), .int (r1), .int (r2), .int (r3)])), (qr, .inl (cR, 3, .inr (.inr (.inr (.inr (fun i => some (ro i))))))), (ro i, .inr (1, [.ref a, .int (nI ((prF f n).1)), .int (if (prF f n).1 = n then ch else ch + nI 1)])), (a, .inl (cI, 60, .inl ((prF f n).2.2)))]) := hD
  refine W.eq (g2 := F0 m 16 ls [.int (nI (n - (prF f n).1))]) rfl ?_
  have hP := hP.sub (ws' := [(h, .inr (2, [.ref qr, .ref qp, .int (nI md), .int (r0), .int (r1), .int (r2), .int (r3)])), (qr, .inl (cR, 3, .inr (.inr (.inr (.inr (fun i => some (ro i))))))), (ro i, .inr (1, [.ref a, .int (nI ((prF f n).1)), .int (if (prF f n).1 = n then ch else ch + nI 1)])), (a, .inl (cI, 60, .inl ((prF f n).2.2)))]) [0, 1, 2, 3] rfl
  have hD := hD.sub (ws' := [(h, .inr (2, [.ref qr, .ref qp, .int (nI md), .int (r0), .int (r1), .int (r2), .int (r3)])), (qr, .inl (cR, 3, .inr (.inr (.inr (.inr (fun i => some (ro i))))))), (ro i, .inr (1, [.ref a, .int (nI ((prF f n).1)), .int (if (prF f n).1 = n then ch else ch + nI 1)])), (a, .inl (cI, 60, .inl ((prF f n).2.2)))]) [0, 1, 2, 3] (by decide) rfl
  exact pw_iret hx hb hr (rfl) hlocks dX2_prune_16 hS hP hD (⟨rfl, rfl⟩)
theorem hi_X2_size_1 : ∀ w ∈ u_ws RX1 TX1 3, w ∈ wsX2_size := by decide +kernel
set_option maxHeartbeats 4000000 in
set_option maxRecDepth 100000 in
theorem k_size (l : Launch) (D : va_G) (cI cP cR : ClassId) (h qr qp md : Nat) (r0 r1 r2 r3 : Int32) (ro : Nat → Nat) (i a n : Nat) (ch : Int32) (f : Nat → Int32) (hi : i < 3) (hn : n ≤ 60) : pw_Mp l yX2_size wsX2_size ({ frames := 2, cells := 0, slots := 0, locals := 46 } : Room) D cI cP cR [.ref h, .int (nI i)] ([(h, .inr (2, [.ref qr, .ref qp, .int (nI md), .int (r0), .int (r1), .int (r2), .int (r3)])), (qr, .inl (cR, 3, .inr (.inr (.inr (.inr (fun i => some (ro i))))))), (ro i, .inr (1, [.ref a, .int (nI n), .int (ch)])), (a, .inl (cI, 60, .inl (f)))]) (.int (nI n)) := by
  refine pw_ofp (cc := cX2_size) (maxL := 3) (ret := (some .int)) (own := RX2) (by decide +kernel) rfl rfl (Nat.le_of_ble_eq_true rfl) ?_
  intro p_ e_ s m bel meth cd hE hK hP hD ls hl
  obtain ⟨hx, hb, hr, hml, hown, hts, hlocks⟩ := hE
  have hNW := hK.2
  have hl : lv_has ls 3 [(0, .ref h), (1, .int (nI i))] := hl
  refine lv_aload_n hx hb dX2_size_0 rfl (lv_at hl 0 rfl) ?_
  refine lv_iload_n hx hb dX2_size_1 rfl (lv_at hl 1 rfl) ?_
  -- c_rowOf_i
  refine pw_cVp (As := [.int (nI i)]) (rest := []) (wc := [(h, .inr (2, [.ref qr, .ref qp, .int (nI md), .int (r0), .int (r1), .int (r2), .int (r3)])), (qr, .inl (cR, 3, .inr (.inr (.inr (.inr (fun i => some (ro i)))))))]) ⟨hx, hb, hml, hown, hts⟩ (c_rowOf_i l D cI cP cR h qr qp md r0 r1 r2 r3 ro i (by omega)) (cwV 1 hts gX2_size_X2_rowOf rfl rfl rfl (by decide +kernel) ⟨Nat.le_of_ble_eq_true rfl, Nat.le_of_ble_eq_true rfl⟩) hK hP hD [0, 1] rfl (by decide) 0 rfl rfl rfl rfl hl.1 rfl (Nat.le_of_ble_eq_true rfl) dX2_size_2 ⟨Nat.zero_le _, Nat.zero_le _⟩ ?_
  refine lv_astore_n (lv' := [(2, .ref (ro i)), (0, .ref h), (1, .int (nI i))]) hx hb dX2_size_5 rfl hl (by decide) rfl (fun ls hl => ?_)
  refine lv_aload_n hx hb dX2_size_6 rfl (lv_at hl 0 rfl) ?_
  refine lv_ifnonnull (tgt := 12) hx hb dX2_size_7 (by decide) ?_
  refine lv_aload_n hx hb dX2_size_12 rfl (lv_at hl 0 rfl) ?_
  refine va_getN (D := D) (ci := 1) (v := .int (nI n)) (C := RX1) (T := TX1) (N := 3) hx hb hts hi_X2_size_1 hown hK.1 hP 2 rfl rfl 1 (by decide) (va_Nw.use rfl hNW.1) (fun _ h9 => h9) rfl dX2_size_13 ?_
  exact pw_piret hx hb hr (rfl) hlocks dX2_size_16 (rfl)
set_option maxHeartbeats 4000000 in
set_option maxRecDepth 100000 in
theorem k_sum (l : Launch) (D : va_G) (cI cP cR : ClassId) (h qr qp md : Nat) (r0 r1 r2 r3 : Int32) (ro : Nat → Nat) (i a n : Nat) (ch : Int32) (f : Nat → Int32) (hi : i < 3) (hn : n ≤ 60) : pw_Mp l yX2_sum wsX2_sum ({ frames := 2, cells := 0, slots := 0, locals := 46 } : Room) D cI cP cR [.ref h, .int (nI i)] ([(h, .inr (2, [.ref qr, .ref qp, .int (nI md), .int (r0), .int (r1), .int (r2), .int (r3)])), (qr, .inl (cR, 3, .inr (.inr (.inr (.inr (fun i => some (ro i))))))), (ro i, .inr (1, [.ref a, .int (nI n), .int (ch)])), (a, .inl (cI, 60, .inl (f)))]) (.int (smF f n)) := by
  refine pw_ofp (cc := cX2_sum) (maxL := 3) (ret := (some .int)) (own := RX2) (by decide +kernel) rfl rfl (Nat.le_of_ble_eq_true rfl) ?_
  intro p_ e_ s m bel meth cd hE hK hP hD ls hl
  obtain ⟨hx, hb, hr, hml, hown, hts, hlocks⟩ := hE
  have hNW := hK.2
  have hl : lv_has ls 3 [(0, .ref h), (1, .int (nI i))] := hl
  refine lv_aload_n hx hb dX2_sum_0 rfl (lv_at hl 0 rfl) ?_
  refine lv_iload_n hx hb dX2_sum_1 rfl (lv_at hl 1 rfl) ?_
  -- c_rowOf_i
  refine pw_cVp (As := [.int (nI i)]) (rest := []) (wc := [(h, .inr (2, [.ref qr, .ref qp, .int (nI md), .int (r0), .int (r1), .int (r2), .int (r3)])), (qr, .inl (cR, 3, .inr (.inr (.inr (.inr (fun i => some (ro i)))))))]) ⟨hx, hb, hml, hown, hts⟩ (c_rowOf_i l D cI cP cR h qr qp md r0 r1 r2 r3 ro i (by omega)) (cwV 1 hts gX2_sum_X2_rowOf rfl rfl rfl (by decide +kernel) ⟨Nat.le_of_ble_eq_true rfl, Nat.le_of_ble_eq_true rfl⟩) hK hP hD [0, 1] rfl (by decide) 0 rfl rfl rfl rfl hl.1 rfl (Nat.le_of_ble_eq_true rfl) dX2_sum_2 ⟨Nat.zero_le _, Nat.zero_le _⟩ ?_
  refine lv_astore_n (lv' := [(2, .ref (ro i)), (0, .ref h), (1, .int (nI i))]) hx hb dX2_sum_5 rfl hl (by decide) rfl (fun ls hl => ?_)
  refine lv_aload_n hx hb dX2_sum_6 rfl (lv_at hl 0 rfl) ?_
  refine lv_ifnonnull (tgt := 12) hx hb dX2_sum_7 (by decide) ?_
  refine lv_aload_n hx hb dX2_sum_12 rfl (lv_at hl 0 rfl) ?_
  -- c_number
  refine pw_cVp (As := []) (rest := []) (wc := [(ro i, .inr (1, [.ref a, .int (nI n), .int (ch)])), (a, .inl (cI, 60, .inl (f)))]) ⟨hx, hb, hml, hown, hts⟩ (c_number l D cI cP cR (ro i) a n ch f (by omega)) (cwV 0 hts gX2_sum_X1_number rfl rfl rfl (by decide +kernel) ⟨Nat.le_of_ble_eq_true rfl, Nat.le_of_ble_eq_true rfl⟩) hK hP hD [2, 3] rfl (by decide) 0 rfl rfl rfl rfl hl.1 rfl (Nat.le_of_ble_eq_true rfl) dX2_sum_13 ⟨Nat.zero_le _, Nat.zero_le _⟩ ?_
  exact pw_piret hx hb hr (rfl) hlocks dX2_sum_16 (rfl)
