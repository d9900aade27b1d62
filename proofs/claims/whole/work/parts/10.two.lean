set_option maxHeartbeats 4000000 in
set_option maxRecDepth 100000 in
theorem k_all_x (l : Launch) (D : va_G) (cI cP cR : ClassId) (h qr qp md : Nat) (r0 r1 r2 r3 : Int32) (ro : Nat → Nat) (row q other : Int32) (hbad : ¬ ((0 ≤ row ∧ row < nI 3) ∧ (0 ≤ other ∧ other < nI 3) ∧ ¬ row = other)) : pw_Mp l yX2_all wsX2_all ({ frames := 2, cells := 0, slots := 0, locals := 46 } : Room) D cI cP cR [.ref h, .int (row), .int (q), .int (other)] ([(h, .inr (2, [.ref qr, .ref qp, .int (nI md), .int (r0), .int (r1), .int (r2), .int (r3)])), (qr, .inl (cR, 3, .inr (.inr (.inr (.inr (fun i => some (ro i)))))))]) (.int (-1)) := by
  refine pw_ofp (cc := cX2_all) (maxL := 7) (ret := (some .int)) (own := RX2) (by decide +kernel) rfl rfl (Nat.le_of_ble_eq_true rfl) ?_
  intro p_ e_ s m bel meth cd hE hK hP hD ls hl
  obtain ⟨hx, hb, hr, hml, hown, hts, hlocks⟩ := hE
  have hNW := hK.2
  have hl : lv_has ls 7 [(0, .ref h), (1, .int (row)), (2, .int (q)), (3, .int (other))] := hl
  by_cases hx_row : 0 ≤ row ∧ row < nI 3
  · obtain ⟨rj_1, hrj_1, rfl⟩ := pw_inP (by decide) hx_row
    by_cases hx_other : 0 ≤ other ∧ other < nI 3
    · obtain ⟨oj_2, hoj_2, rfl⟩ := pw_inP (by decide) hx_other
      refine lv_aload_n hx hb dX2_all_0 rfl (lv_at hl 0 rfl) ?_
      refine lv_iload_n hx hb dX2_all_1 rfl (lv_at hl 1 rfl) ?_
      -- c_rowOf_i
      refine pw_cVp (As := [.int (nI rj_1)]) (rest := []) (wc := [(h, .inr (2, [.ref qr, .ref qp, .int (nI md), .int (r0), .int (r1), .int (r2), .int (r3)])), (qr, .inl (cR, 3, .inr (.inr (.inr (.inr (fun i => some (ro i)))))))]) ⟨hx, hb, hml, hown, hts⟩ (c_rowOf_i l D cI cP cR h qr qp md r0 r1 r2 r3 ro rj_1 (by omega)) (cwV 1 hts gX2_all_X2_rowOf rfl rfl rfl (by decide +kernel) ⟨Nat.le_of_ble_eq_true rfl, Nat.le_of_ble_eq_true rfl⟩) hK hP hD [0, 1] rfl (by decide) 0 rfl rfl rfl rfl hl.1 rfl (Nat.le_of_ble_eq_true rfl) dX2_all_2 ⟨Nat.zero_le _, Nat.zero_le _⟩ ?_
      refine lv_astore (lv' := [(4, .ref (ro rj_1)), (0, .ref h), (1, .int (nI rj_1)), (2, .int (q)), (3, .int (nI oj_2))]) hx hb dX2_all_5 hl (by decide) rfl (fun ls hl => ?_)
      refine lv_aload_n hx hb dX2_all_7 rfl (lv_at hl 1 rfl) ?_
      refine lv_iload_n hx hb dX2_all_8 rfl (lv_at hl 4 rfl) ?_
      -- c_rowOf_i
      refine pw_cVp (As := [.int (nI oj_2)]) (rest := []) (wc := [(h, .inr (2, [.ref qr, .ref qp, .int (nI md), .int (r0), .int (r1), .int (r2), .int (r3)])), (qr, .inl (cR, 3, .inr (.inr (.inr (.inr (fun i => some (ro i)))))))]) ⟨hx, hb, hml, hown, hts⟩ (c_rowOf_i l D cI cP cR h qr qp md r0 r1 r2 r3 ro oj_2 (by omega)) (cwV 1 hts gX2_all_X2_rowOf rfl rfl rfl (by decide +kernel) ⟨Nat.le_of_ble_eq_true rfl, Nat.le_of_ble_eq_true rfl⟩) hK hP hD [0, 1] rfl (by decide) 0 rfl rfl rfl rfl hl.1 rfl (Nat.le_of_ble_eq_true rfl) dX2_all_9 ⟨Nat.zero_le _, Nat.zero_le _⟩ ?_
      refine lv_astore (lv' := [(5, .ref (ro oj_2)), (4, .ref (ro rj_1)), (0, .ref h), (1, .int (nI rj_1)), (2, .int (q)), (3, .int (nI oj_2))]) hx hb dX2_all_12 hl (by decide) rfl (fun ls hl => ?_)
      refine lv_aload hx hb dX2_all_14 (lv_at hl 1 rfl) ?_
      refine lv_ifnull hx hb dX2_all_16 ?_
      refine lv_aload hx hb dX2_all_19 (lv_at hl 0 rfl) ?_
      refine lv_ifnull hx hb dX2_all_21 ?_
      refine lv_aload hx hb dX2_all_24 (lv_at hl 1 rfl) ?_
      refine lv_aload hx hb dX2_all_26 (lv_at hl 0 rfl) ?_
      refine lv_acmp_ne (rx := (some (ro rj_1))) (ry := (some (ro oj_2))) (tgt := 33) hx hb dX2_all_28 (by decide) (fun c_3 => ?_) (fun c_3 => ?_)
      · exact absurd (show some (ro rj_1) = some (ro oj_2) from by rw [show rj_1 = oj_2 from Decidable.byContradiction (fun hn => hbad ⟨hx_row, hx_other, fun q => hn ((pw_eqN (by omega) (by omega)).mp q)⟩)]) c_3
      · have _h := c_3
        refine lv_iconst (v := -1) hx hb dX2_all_31 (by decide) ?_
        exact pw_piret hx hb hr (rfl) hlocks dX2_all_32 (rfl)
    · have _h := hx_other
      refine lv_aload_n hx hb dX2_all_0 rfl (lv_at hl 0 rfl) ?_
      refine lv_iload_n hx hb dX2_all_1 rfl (lv_at hl 1 rfl) ?_
      -- c_rowOf_i
      refine pw_cVp (As := [.int (nI rj_1)]) (rest := []) (wc := [(h, .inr (2, [.ref qr, .ref qp, .int (nI md), .int (r0), .int (r1), .int (r2), .int (r3)])), (qr, .inl (cR, 3, .inr (.inr (.inr (.inr (fun i => some (ro i)))))))]) ⟨hx, hb, hml, hown, hts⟩ (c_rowOf_i l D cI cP cR h qr qp md r0 r1 r2 r3 ro rj_1 (by omega)) (cwV 1 hts gX2_all_X2_rowOf rfl rfl rfl (by decide +kernel) ⟨Nat.le_of_ble_eq_true rfl, Nat.le_of_ble_eq_true rfl⟩) hK hP hD [0, 1] rfl (by decide) 0 rfl rfl rfl rfl hl.1 rfl (Nat.le_of_ble_eq_true rfl) dX2_all_2 ⟨Nat.zero_le _, Nat.zero_le _⟩ ?_
      refine lv_astore (lv' := [(4, .ref (ro rj_1)), (0, .ref h), (1, .int (nI rj_1)), (2, .int (q)), (3, .int (other))]) hx hb dX2_all_5 hl (by decide) rfl (fun ls hl => ?_)
      refine lv_aload_n hx hb dX2_all_7 rfl (lv_at hl 1 rfl) ?_
      refine lv_iload_n hx hb dX2_all_8 rfl (lv_at hl 4 rfl) ?_
      -- c_rowOf_n
      refine pw_cVp (As := [.int (other)]) (rest := []) (wc := [(h, .inr (2, [.ref qr, .ref qp, .int (nI md), .int (r0), .int (r1), .int (r2), .int (r3)])), (qr, .inl (cR, 3, .inr (.inr (.inr (.inr (fun i => some (ro i)))))))]) ⟨hx, hb, hml, hown, hts⟩ (c_rowOf_n l D cI cP cR h qr qp md r0 r1 r2 r3 ro other hx_other) (cwV 1 hts gX2_all_X2_rowOf rfl rfl rfl (by decide +kernel) ⟨Nat.le_of_ble_eq_true rfl, Nat.le_of_ble_eq_true rfl⟩) hK hP hD [0, 1] rfl (by decide) 0 rfl rfl rfl rfl hl.1 rfl (Nat.le_of_ble_eq_true rfl) dX2_all_9 ⟨Nat.zero_le _, Nat.zero_le _⟩ ?_
      refine lv_astoreN (lv' := [(5, .null), (4, .ref (ro rj_1)), (0, .ref h), (1, .int (nI rj_1)), (2, .int (q)), (3, .int (other))]) hx hb dX2_all_12 hl (by decide) rfl (fun ls hl => ?_)
      refine lv_aload hx hb dX2_all_14 (lv_at hl 1 rfl) ?_
      refine lv_ifnull hx hb dX2_all_16 ?_
      refine lv_aloadN hx hb dX2_all_19 (lv_at hl 0 rfl) ?_
      refine lv_ifnullN (tgt := 31) hx hb dX2_all_21 (by decide) ?_
      refine lv_iconst (v := -1) hx hb dX2_all_31 (by decide) ?_
      exact pw_piret hx hb hr (rfl) hlocks dX2_all_32 (rfl)
  · have _h := hx_row
    by_cases hx_other : 0 ≤ other ∧ other < nI 3
    · obtain ⟨oj_4, hoj_4, rfl⟩ := pw_inP (by decide) hx_other
      refine lv_aload_n hx hb dX2_all_0 rfl (lv_at hl 0 rfl) ?_
      refine lv_iload_n hx hb dX2_all_1 rfl (lv_at hl 1 rfl) ?_
      -- c_rowOf_n
      refine pw_cVp (As := [.int (row)]) (rest := []) (wc := [(h, .inr (2, [.ref qr, .ref qp, .int (nI md), .int (r0), .int (r1), .int (r2), .int (r3)])), (qr, .inl (cR, 3, .inr (.inr (.inr (.inr (fun i => some (ro i)))))))]) ⟨hx, hb, hml, hown, hts⟩ (c_rowOf_n l D cI cP cR h qr qp md r0 r1 r2 r3 ro row hx_row) (cwV 1 hts gX2_all_X2_rowOf rfl rfl rfl (by decide +kernel) ⟨Nat.le_of_ble_eq_true rfl, Nat.le_of_ble_eq_true rfl⟩) hK hP hD [0, 1] rfl (by decide) 0 rfl rfl rfl rfl hl.1 rfl (Nat.le_of_ble_eq_true rfl) dX2_all_2 ⟨Nat.zero_le _, Nat.zero_le _⟩ ?_
      refine lv_astoreN (lv' := [(4, .null), (0, .ref h), (1, .int (row)), (2, .int (q)), (3, .int (nI oj_4))]) hx hb dX2_all_5 hl (by decide) rfl (fun ls hl => ?_)
      refine lv_aload_n hx hb dX2_all_7 rfl (lv_at hl 1 rfl) ?_
      refine lv_iload_n hx hb dX2_all_8 rfl (lv_at hl 4 rfl) ?_
      -- c_rowOf_i
      refine pw_cVp (As := [.int (nI oj_4)]) (rest := []) (wc := [(h, .inr (2, [.ref qr, .ref qp, .int (nI md), .int (r0), .int (r1), .int (r2), .int (r3)])), (qr, .inl (cR, 3, .inr (.inr (.inr (.inr (fun i => some (ro i)))))))]) ⟨hx, hb, hml, hown, hts⟩ (c_rowOf_i l D cI cP cR h qr qp md r0 r1 r2 r3 ro oj_4 (by omega)) (cwV 1 hts gX2_all_X2_rowOf rfl rfl rfl (by decide +kernel) ⟨Nat.le_of_ble_eq_true rfl, Nat.le_of_ble_eq_true rfl⟩) hK hP hD [0, 1] rfl (by decide) 0 rfl rfl rfl rfl hl.1 rfl (Nat.le_of_ble_eq_true rfl) dX2_all_9 ⟨Nat.zero_le _, Nat.zero_le _⟩ ?_
      refine lv_astore (lv' := [(5, .ref (ro oj_4)), (4, .null), (0, .ref h), (1, .int (row)), (2, .int (q)), (3, .int (nI oj_4))]) hx hb dX2_all_12 hl (by decide) rfl (fun ls hl => ?_)
      refine lv_aloadN hx hb dX2_all_14 (lv_at hl 1 rfl) ?_
      refine lv_ifnullN (tgt := 31) hx hb dX2_all_16 (by decide) ?_
      refine lv_iconst (v := -1) hx hb dX2_all_31 (by decide) ?_
      exact pw_piret hx hb hr (rfl) hlocks dX2_all_32 (rfl)
    · have _h := hx_other
      refine lv_aload_n hx hb dX2_all_0 rfl (lv_at hl 0 rfl) ?_
      refine lv_iload_n hx hb dX2_all_1 rfl (lv_at hl 1 rfl) ?_
      -- c_rowOf_n
      refine pw_cVp (As := [.int (row)]) (rest := []) (wc := [(h, .inr (2, [.ref qr, .ref qp, .int (nI md), .int (r0), .int (r1), .int (r2), .int (r3)])), (qr, .inl (cR, 3, .inr (.inr (.inr (.inr (fun i => some (ro i)))))))]) ⟨hx, hb, hml, hown, hts⟩ (c_rowOf_n l D cI cP cR h qr qp md r0 r1 r2 r3 ro row hx_row) (cwV 1 hts gX2_all_X2_rowOf rfl rfl rfl (by decide +kernel) ⟨Nat.le_of_ble_eq_true rfl, Nat.le_of_ble_eq_true rfl⟩) hK hP hD [0, 1] rfl (by decide) 0 rfl rfl rfl rfl hl.1 rfl (Nat.le_of_ble_eq_true rfl) dX2_all_2 ⟨Nat.zero_le _, Nat.zero_le _⟩ ?_
      refine lv_astoreN (lv' := [(4, .null), (0, .ref h), (1, .int (row)), (2, .int (q)), (3, .int (other))]) hx hb dX2_all_5 hl (by decide) rfl (fun ls hl => ?_)
      refine lv_aload_n hx hb dX2_all_7 rfl (lv_at hl 1 rfl) ?_
      refine lv_iload_n hx hb dX2_all_8 rfl (lv_at hl 4 rfl) ?_
      -- c_rowOf_n
      refine pw_cVp (As := [.int (other)]) (rest := []) (wc := [(h, .inr (2, [.ref qr, .ref qp, .int (nI md), .int (r0), .int (r1), .int (r2), .int (r3)])), (qr, .inl (cR, 3, .inr (.inr (.inr (.inr (fun i => some (ro i)))))))]) ⟨hx, hb, hml, hown, hts⟩ (c_rowOf_n l D cI cP cR h qr qp md r0 r1 r2 r3 ro other hx_other) (cwV 1 hts gX2_all_X2_rowOf rfl rfl rfl (by decide +kernel) ⟨Nat.le_of_ble_eq_true rfl, Nat.le_of_ble_eq_true rfl⟩) hK hP hD [0, 1] rfl (by decide) 0 rfl rfl rfl rfl hl.1 rfl (Nat.le_of_ble_eq_true rfl) dX2_all_9 ⟨Nat.zero_le _, Nat.zero_le _⟩ ?_
      refine lv_astoreN (lv' := [(5, .null), (4, .null), (0, .ref h), (1, .int (row)), (2, .int (q)), (3, .int (other))]) hx hb dX2_all_12 hl (by decide) rfl (fun ls hl => ?_)
      refine lv_aloadN hx hb dX2_all_14 (lv_at hl 1 rfl) ?_
      refine lv_ifnullN (tgt := 31) hx hb dX2_all_16 (by decide) ?_
      refine lv_iconst (v := -1) hx hb dX2_all_31 (by decide) ?_
      exact pw_piret hx hb hr (rfl) hlocks dX2_all_32 (rfl)
set_option maxHeartbeats 4000000 in
set_option maxRecDepth 100000 in
theorem k_weave_x (l : Launch) (D : va_G) (cI cP cR : ClassId) (h qr qp md : Nat) (r0 r1 r2 r3 : Int32) (ro : Nat → Nat) (row other : Int32) (hbad : ¬ ((0 ≤ row ∧ row < nI 3) ∧ (0 ≤ other ∧ other < nI 3) ∧ ¬ row = other)) : pw_Mp l yX2_weave wsX2_weave ({ frames := 2, cells := 0, slots := 0, locals := 46 } : Room) D cI cP cR [.ref h, .int (row), .int (other)] ([(h, .inr (2, [.ref qr, .ref qp, .int (nI md), .int (r0), .int (r1), .int (r2), .int (r3)])), (qr, .inl (cR, 3, .inr (.inr (.inr (.inr (fun i => some (ro i)))))))]) (.int (-1)) := by
  refine pw_ofp (cc := cX2_weave) (maxL := 5) (ret := (some .int)) (own := RX2) (by decide +kernel) rfl rfl (Nat.le_of_ble_eq_true rfl) ?_
  intro p_ e_ s m bel meth cd hE hK hP hD ls hl
  obtain ⟨hx, hb, hr, hml, hown, hts, hlocks⟩ := hE
  have hNW := hK.2
  have hl : lv_has ls 5 [(0, .ref h), (1, .int (row)), (2, .int (other))] := hl
  by_cases hx_row : 0 ≤ row ∧ row < nI 3
  · obtain ⟨rj_1, hrj_1, rfl⟩ := pw_inP (by decide) hx_row
    by_cases hx_other : 0 ≤ other ∧ other < nI 3
    · obtain ⟨oj_2, hoj_2, rfl⟩ := pw_inP (by decide) hx_other
      refine lv_aload_n hx hb dX2_weave_0 rfl (lv_at hl 0 rfl) ?_
      refine lv_iload_n hx hb dX2_weave_1 rfl (lv_at hl 1 rfl) ?_
      -- c_rowOf_i
      refine pw_cVp (As := [.int (nI rj_1)]) (rest := []) (wc := [(h, .inr (2, [.ref qr, .ref qp, .int (nI md), .int (r0), .int (r1), .int (r2), .int (r3)])), (qr, .inl (cR, 3, .inr (.inr (.inr (.inr (fun i => some (ro i)))))))]) ⟨hx, hb, hml, hown, hts⟩ (c_rowOf_i l D cI cP cR h qr qp md r0 r1 r2 r3 ro rj_1 (by omega)) (cwV 1 hts gX2_weave_X2_rowOf rfl rfl rfl (by decide +kernel) ⟨Nat.le_of_ble_eq_true rfl, Nat.le_of_ble_eq_true rfl⟩) hK hP hD [0, 1] rfl (by decide) 0 rfl rfl rfl rfl hl.1 rfl (Nat.le_of_ble_eq_true rfl) dX2_weave_2 ⟨Nat.zero_le _, Nat.zero_le _⟩ ?_
      refine lv_astore_n (lv' := [(3, .ref (ro rj_1)), (0, .ref h), (1, .int (nI rj_1)), (2, .int (nI oj_2))]) hx hb dX2_weave_5 rfl hl (by decide) rfl (fun ls hl => ?_)
      refine lv_aload_n hx hb dX2_weave_6 rfl (lv_at hl 1 rfl) ?_
      refine lv_iload_n hx hb dX2_weave_7 rfl (lv_at hl 3 rfl) ?_
      -- c_rowOf_i
      refine pw_cVp (As := [.int (nI oj_2)]) (rest := []) (wc := [(h, .inr (2, [.ref qr, .ref qp, .int (nI md), .int (r0), .int (r1), .int (r2), .int (r3)])), (qr, .inl (cR, 3, .inr (.inr (.inr (.inr (fun i => some (ro i)))))))]) ⟨hx, hb, hml, hown, hts⟩ (c_rowOf_i l D cI cP cR h qr qp md r0 r1 r2 r3 ro oj_2 (by omega)) (cwV 1 hts gX2_weave_X2_rowOf rfl rfl rfl (by decide +kernel) ⟨Nat.le_of_ble_eq_true rfl, Nat.le_of_ble_eq_true rfl⟩) hK hP hD [0, 1] rfl (by decide) 0 rfl rfl rfl rfl hl.1 rfl (Nat.le_of_ble_eq_true rfl) dX2_weave_8 ⟨Nat.zero_le _, Nat.zero_le _⟩ ?_
      refine lv_astore (lv' := [(4, .ref (ro oj_2)), (3, .ref (ro rj_1)), (0, .ref h), (1, .int (nI rj_1)), (2, .int (nI oj_2))]) hx hb dX2_weave_11 hl (by decide) rfl (fun ls hl => ?_)
      refine lv_aload_n hx hb dX2_weave_13 rfl (lv_at hl 1 rfl) ?_
      refine lv_ifnull hx hb dX2_weave_14 ?_
      refine lv_aload hx hb dX2_weave_17 (lv_at hl 0 rfl) ?_
      refine lv_ifnull hx hb dX2_weave_19 ?_
      refine lv_aload_n hx hb dX2_weave_22 rfl (lv_at hl 1 rfl) ?_
      refine lv_aload hx hb dX2_weave_23 (lv_at hl 0 rfl) ?_
      refine lv_acmp_ne (rx := (some (ro rj_1))) (ry := (some (ro oj_2))) (tgt := 30) hx hb dX2_weave_25 (by decide) (fun c_3 => ?_) (fun c_3 => ?_)
      · exact absurd (show some (ro rj_1) = some (ro oj_2) from by rw [show rj_1 = oj_2 from Decidable.byContradiction (fun hn => hbad ⟨hx_row, hx_other, fun q => hn ((pw_eqN (by omega) (by omega)).mp q)⟩)]) c_3
      · have _h := c_3
        refine lv_iconst (v := -1) hx hb dX2_weave_28 (by decide) ?_
        exact pw_piret hx hb hr (rfl) hlocks dX2_weave_29 (rfl)
    · have _h := hx_other
      refine lv_aload_n hx hb dX2_weave_0 rfl (lv_at hl 0 rfl) ?_
      refine lv_iload_n hx hb dX2_weave_1 rfl (lv_at hl 1 rfl) ?_
      -- c_rowOf_i
      refine pw_cVp (As := [.int (nI rj_1)]) (rest := []) (wc := [(h, .inr (2, [.ref qr, .ref qp, .int (nI md), .int (r0), .int (r1), .int (r2), .int (r3)])), (qr, .inl (cR, 3, .inr (.inr (.inr (.inr (fun i => some (ro i)))))))]) ⟨hx, hb, hml, hown, hts⟩ (c_rowOf_i l D cI cP cR h qr qp md r0 r1 r2 r3 ro rj_1 (by omega)) (cwV 1 hts gX2_weave_X2_rowOf rfl rfl rfl (by decide +kernel) ⟨Nat.le_of_ble_eq_true rfl, Nat.le_of_ble_eq_true rfl⟩) hK hP hD [0, 1] rfl (by decide) 0 rfl rfl rfl rfl hl.1 rfl (Nat.le_of_ble_eq_true rfl) dX2_weave_2 ⟨Nat.zero_le _, Nat.zero_le _⟩ ?_
      refine lv_astore_n (lv' := [(3, .ref (ro rj_1)), (0, .ref h), (1, .int (nI rj_1)), (2, .int (other))]) hx hb dX2_weave_5 rfl hl (by decide) rfl (fun ls hl => ?_)
      refine lv_aload_n hx hb dX2_weave_6 rfl (lv_at hl 1 rfl) ?_
      refine lv_iload_n hx hb dX2_weave_7 rfl (lv_at hl 3 rfl) ?_
      -- c_rowOf_n
      refine pw_cVp (As := [.int (other)]) (rest := []) (wc := [(h, .inr (2, [.ref qr, .ref qp, .int (nI md), .int (r0), .int (r1), .int (r2), .int (r3)])), (qr, .inl (cR, 3, .inr (.inr (.inr (.inr (fun i => some (ro i)))))))]) ⟨hx, hb, hml, hown, hts⟩ (c_rowOf_n l D cI cP cR h qr qp md r0 r1 r2 r3 ro other hx_other) (cwV 1 hts gX2_weave_X2_rowOf rfl rfl rfl (by decide +kernel) ⟨Nat.le_of_ble_eq_true rfl, Nat.le_of_ble_eq_true rfl⟩) hK hP hD [0, 1] rfl (by decide) 0 rfl rfl rfl rfl hl.1 rfl (Nat.le_of_ble_eq_true rfl) dX2_weave_8 ⟨Nat.zero_le _, Nat.zero_le _⟩ ?_
      refine lv_astoreN (lv' := [(4, .null), (3, .ref (ro rj_1)), (0, .ref h), (1, .int (nI rj_1)), (2, .int (other))]) hx hb dX2_weave_11 hl (by decide) rfl (fun ls hl => ?_)
      refine lv_aload_n hx hb dX2_weave_13 rfl (lv_at hl 1 rfl) ?_
      refine lv_ifnull hx hb dX2_weave_14 ?_
      refine lv_aloadN hx hb dX2_weave_17 (lv_at hl 0 rfl) ?_
      refine lv_ifnullN (tgt := 28) hx hb dX2_weave_19 (by decide) ?_
      refine lv_iconst (v := -1) hx hb dX2_weave_28 (by decide) ?_
      exact pw_piret hx hb hr (rfl) hlocks dX2_weave_29 (rfl)
  · have _h := hx_row
    by_cases hx_other : 0 ≤ other ∧ other < nI 3
    · obtain ⟨oj_4, hoj_4, rfl⟩ := pw_inP (by decide) hx_other
      refine lv_aload_n hx hb dX2_weave_0 rfl (lv_at hl 0 rfl) ?_
      refine lv_iload_n hx hb dX2_weave_1 rfl (lv_at hl 1 rfl) ?_
      -- c_rowOf_n
      refine pw_cVp (As := [.int (row)]) (rest := []) (wc := [(h, .inr (2, [.ref qr, .ref qp, .int (nI md), .int (r0), .int (r1), .int (r2), .int (r3)])), (qr, .inl (cR, 3, .inr (.inr (.inr (.inr (fun i => some (ro i)))))))]) ⟨hx, hb, hml, hown, hts⟩ (c_rowOf_n l D cI cP cR h qr qp md r0 r1 r2 r3 ro row hx_row) (cwV 1 hts gX2_weave_X2_rowOf rfl rfl rfl (by decide +kernel) ⟨Nat.le_of_ble_eq_true rfl, Nat.le_of_ble_eq_true rfl⟩) hK hP hD [0, 1] rfl (by decide) 0 rfl rfl rfl rfl hl.1 rfl (Nat.le_of_ble_eq_true rfl) dX2_weave_2 ⟨Nat.zero_le _, Nat.zero_le _⟩ ?_
      refine lv_astore_nN (lv' := [(3, .null), (0, .ref h), (1, .int (row)), (2, .int (nI oj_4))]) hx hb dX2_weave_5 rfl hl (by decide) rfl (fun ls hl => ?_)
      refine lv_aload_n hx hb dX2_weave_6 rfl (lv_at hl 1 rfl) ?_
      refine lv_iload_n hx hb dX2_weave_7 rfl (lv_at hl 3 rfl) ?_
      -- c_rowOf_i
      refine pw_cVp (As := [.int (nI oj_4)]) (rest := []) (wc := [(h, .inr (2, [.ref qr, .ref qp, .int (nI md), .int (r0), .int (r1), .int (r2), .int (r3)])), (qr, .inl (cR, 3, .inr (.inr (.inr (.inr (fun i => some (ro i)))))))]) ⟨hx, hb, hml, hown, hts⟩ (c_rowOf_i l D cI cP cR h qr qp md r0 r1 r2 r3 ro oj_4 (by omega)) (cwV 1 hts gX2_weave_X2_rowOf rfl rfl rfl (by decide +kernel) ⟨Nat.le_of_ble_eq_true rfl, Nat.le_of_ble_eq_true rfl⟩) hK hP hD [0, 1] rfl (by decide) 0 rfl rfl rfl rfl hl.1 rfl (Nat.le_of_ble_eq_true rfl) dX2_weave_8 ⟨Nat.zero_le _, Nat.zero_le _⟩ ?_
      refine lv_astore (lv' := [(4, .ref (ro oj_4)), (3, .null), (0, .ref h), (1, .int (row)), (2, .int (nI oj_4))]) hx hb dX2_weave_11 hl (by decide) rfl (fun ls hl => ?_)
      refine lv_aload_nN hx hb dX2_weave_13 rfl (lv_at hl 1 rfl) ?_
      refine lv_ifnullN (tgt := 28) hx hb dX2_weave_14 (by decide) ?_
      refine lv_iconst (v := -1) hx hb dX2_weave_28 (by decide) ?_
      exact pw_piret hx hb hr (rfl) hlocks dX2_weave_29 (rfl)
    · have _h := hx_other
      refine lv_aload_n hx hb dX2_weave_0 rfl (lv_at hl 0 rfl) ?_
      refine lv_iload_n hx hb dX2_weave_1 rfl (lv_at hl 1 rfl) ?_
      -- c_rowOf_n
      refine pw_cVp (As := [.int (row)]) (rest := []) (wc := [(h, .inr (2, [.ref qr, .ref qp, .int (nI md), .int (r0), .int (r1), .int (r2), .int (r3)])), (qr, .inl (cR, 3, .inr (.inr (.inr (.inr (fun i => some (ro i)))))))]) ⟨hx, hb, hml, hown, hts⟩ (c_rowOf_n l D cI cP cR h qr qp md r0 r1 r2 r3 ro row hx_row) (cwV 1 hts gX2_weave_X2_rowOf rfl rfl rfl (by decide +kernel) ⟨Nat.le_of_ble_eq_true rfl, Nat.le_of_ble_eq_true rfl⟩) hK hP hD [0, 1] rfl (by decide) 0 rfl rfl rfl rfl hl.1 rfl (Nat.le_of_ble_eq_true rfl) dX2_weave_2 ⟨Nat.zero_le _, Nat.zero_le _⟩ ?_
      refine lv_astore_nN (lv' := [(3, .null), (0, .ref h), (1, .int (row)), (2, .int (other))]) hx hb dX2_weave_5 rfl hl (by decide) rfl (fun ls hl => ?_)
      refine lv_aload_n hx hb dX2_weave_6 rfl (lv_at hl 1 rfl) ?_
      refine lv_iload_n hx hb dX2_weave_7 rfl (lv_at hl 3 rfl) ?_
      -- c_rowOf_n
      refine pw_cVp (As := [.int (other)]) (rest := []) (wc := [(h, .inr (2, [.ref qr, .ref qp, .int (nI md), .int (r0), .int (r1), .int (r2), .int (r3)])), (qr, .inl (cR, 3, .inr (.inr (.inr (.inr (fun i => some (ro i)))))))]) ⟨hx, hb, hml, hown, hts⟩ (c_rowOf_n l D cI cP cR h qr qp md r0 r1 r2 r3 ro other hx_other) (cwV 1 hts gX2_weave_X2_rowOf rfl rfl rfl (by decide +kernel) ⟨Nat.le_of_ble_eq_true rfl, Nat.le_of_ble_eq_true rfl⟩) hK hP hD [0, 1] rfl (by decide) 0 rfl rfl rfl rfl hl.1 rfl (Nat.le_of_ble_eq_true rfl) dX2_weave_8 ⟨Nat.zero_le _, Nat.zero_le _⟩ ?_
      refine lv_astoreN (lv' := [(4, .null), (3, .null), (0, .ref h), (1, .int (row)), (2, .int (other))]) hx hb dX2_weave_11 hl (by decide) rfl (fun ls hl => ?_)
      refine lv_aload_nN hx hb dX2_weave_13 rfl (lv_at hl 1 rfl) ?_
      refine lv_ifnullN (tgt := 28) hx hb dX2_weave_14 (by decide) ?_
      refine lv_iconst (v := -1) hx hb dX2_weave_28 (by decide) ?_
      exact pw_piret hx hb hr (rfl) hlocks dX2_weave_29 (rfl)
set_option maxHeartbeats 4000000 in
set_option maxRecDepth 100000 in
theorem k_copy_x (l : Launch) (D : va_G) (cI cP cR : ClassId) (h qr qp md : Nat) (r0 r1 r2 r3 : Int32) (ro : Nat → Nat) (row other : Int32) (hbad : ¬ ((0 ≤ row ∧ row < nI 3) ∧ (0 ≤ other ∧ other < nI 3) ∧ ¬ row = other)) : pw_Mp l yX2_copy wsX2_copy ({ frames := 2, cells := 0, slots := 0, locals := 46 } : Room) D cI cP cR [.ref h, .int (row), .int (other)] ([(h, .inr (2, [.ref qr, .ref qp, .int (nI md), .int (r0), .int (r1), .int (r2), .int (r3)])), (qr, .inl (cR, 3, .inr (.inr (.inr (.inr (fun i => some (ro i)))))))]) (.int (-1)) := by
  refine pw_ofp (cc := cX2_copy) (maxL := 6) (ret := (some .int)) (own := RX2) (by decide +kernel) rfl rfl (Nat.le_of_ble_eq_true rfl) ?_
  intro p_ e_ s m bel meth cd hE hK hP hD ls hl
  obtain ⟨hx, hb, hr, hml, hown, hts, hlocks⟩ := hE
  have hNW := hK.2
  have hl : lv_has ls 6 [(0, .ref h), (1, .int (row)), (2, .int (other))] := hl
  by_cases hx_row : 0 ≤ row ∧ row < nI 3
  · obtain ⟨rj_1, hrj_1, rfl⟩ := pw_inP (by decide) hx_row
    by_cases hx_other : 0 ≤ other ∧ other < nI 3
    · obtain ⟨oj_2, hoj_2, rfl⟩ := pw_inP (by decide) hx_other
      refine lv_aload_n hx hb dX2_copy_0 rfl (lv_at hl 0 rfl) ?_
      refine lv_iload_n hx hb dX2_copy_1 rfl (lv_at hl 1 rfl) ?_
      -- c_rowOf_i
      refine pw_cVp (As := [.int (nI rj_1)]) (rest := []) (wc := [(h, .inr (2, [.ref qr, .ref qp, .int (nI md), .int (r0), .int (r1), .int (r2), .int (r3)])), (qr, .inl (cR, 3, .inr (.inr (.inr (.inr (fun i => some (ro i)))))))]) ⟨hx, hb, hml, hown, hts⟩ (c_rowOf_i l D cI cP cR h qr qp md r0 r1 r2 r3 ro rj_1 (by omega)) (cwV 1 hts gX2_copy_X2_rowOf rfl rfl rfl (by decide +kernel) ⟨Nat.le_of_ble_eq_true rfl, Nat.le_of_ble_eq_true rfl⟩) hK hP hD [0, 1] rfl (by decide) 0 rfl rfl rfl rfl hl.1 rfl (Nat.le_of_ble_eq_true rfl) dX2_copy_2 ⟨Nat.zero_le _, Nat.zero_le _⟩ ?_
      refine lv_astore_n (lv' := [(3, .ref (ro rj_1)), (0, .ref h), (1, .int (nI rj_1)), (2, .int (nI oj_2))]) hx hb dX2_copy_5 rfl hl (by decide) rfl (fun ls hl => ?_)
      refine lv_aload_n hx hb dX2_copy_6 rfl (lv_at hl 1 rfl) ?_
      refine lv_iload_n hx hb dX2_copy_7 rfl (lv_at hl 3 rfl) ?_
      -- c_rowOf_i
      refine pw_cVp (As := [.int (nI oj_2)]) (rest := []) (wc := [(h, .inr (2, [.ref qr, .ref qp, .int (nI md), .int (r0), .int (r1), .int (r2), .int (r3)])), (qr, .inl (cR, 3, .inr (.inr (.inr (.inr (fun i => some (ro i)))))))]) ⟨hx, hb, hml, hown, hts⟩ (c_rowOf_i l D cI cP cR h qr qp md r0 r1 r2 r3 ro oj_2 (by omega)) (cwV 1 hts gX2_copy_X2_rowOf rfl rfl rfl (by decide +kernel) ⟨Nat.le_of_ble_eq_true rfl, Nat.le_of_ble_eq_true rfl⟩) hK hP hD [0, 1] rfl (by decide) 0 rfl rfl rfl rfl hl.1 rfl (Nat.le_of_ble_eq_true rfl) dX2_copy_8 ⟨Nat.zero_le _, Nat.zero_le _⟩ ?_
      refine lv_astore (lv' := [(4, .ref (ro oj_2)), (3, .ref (ro rj_1)), (0, .ref h), (1, .int (nI rj_1)), (2, .int (nI oj_2))]) hx hb dX2_copy_11 hl (by decide) rfl (fun ls hl => ?_)
      refine lv_aload_n hx hb dX2_copy_13 rfl (lv_at hl 1 rfl) ?_
      refine lv_ifnull hx hb dX2_copy_14 ?_
      refine lv_aload hx hb dX2_copy_17 (lv_at hl 0 rfl) ?_
      refine lv_ifnull hx hb dX2_copy_19 ?_
      refine lv_aload_n hx hb dX2_copy_22 rfl (lv_at hl 1 rfl) ?_
      refine lv_aload hx hb dX2_copy_23 (lv_at hl 0 rfl) ?_
      refine lv_acmp_ne (rx := (some (ro rj_1))) (ry := (some (ro oj_2))) (tgt := 30) hx hb dX2_copy_25 (by decide) (fun c_3 => ?_) (fun c_3 => ?_)
      · exact absurd (show some (ro rj_1) = some (ro oj_2) from by rw [show rj_1 = oj_2 from Decidable.byContradiction (fun hn => hbad ⟨hx_row, hx_other, fun q => hn ((pw_eqN (by omega) (by omega)).mp q)⟩)]) c_3
      · have _h := c_3
        refine lv_iconst (v := -1) hx hb dX2_copy_28 (by decide) ?_
        exact pw_piret hx hb hr (rfl) hlocks dX2_copy_29 (rfl)
    · have _h := hx_other
      refine lv_aload_n hx hb dX2_copy_0 rfl (lv_at hl 0 rfl) ?_
      refine lv_iload_n hx hb dX2_copy_1 rfl (lv_at hl 1 rfl) ?_
      -- c_rowOf_i
      refine pw_cVp (As := [.int (nI rj_1)]) (rest := []) (wc := [(h, .inr (2, [.ref qr, .ref qp, .int (nI md), .int (r0), .int (r1), .int (r2), .int (r3)])), (qr, .inl (cR, 3, .inr (.inr (.inr (.inr (fun i => some (ro i)))))))]) ⟨hx, hb, hml, hown, hts⟩ (c_rowOf_i l D cI cP cR h qr qp md r0 r1 r2 r3 ro rj_1 (by omega)) (cwV 1 hts gX2_copy_X2_rowOf rfl rfl rfl (by decide +kernel) ⟨Nat.le_of_ble_eq_true rfl, Nat.le_of_ble_eq_true rfl⟩) hK hP hD [0, 1] rfl (by decide) 0 rfl rfl rfl rfl hl.1 rfl (Nat.le_of_ble_eq_true rfl) dX2_copy_2 ⟨Nat.zero_le _, Nat.zero_le _⟩ ?_
      refine lv_astore_n (lv' := [(3, .ref (ro rj_1)), (0, .ref h), (1, .int (nI rj_1)), (2, .int (other))]) hx hb dX2_copy_5 rfl hl (by decide) rfl (fun ls hl => ?_)
      refine lv_aload_n hx hb dX2_copy_6 rfl (lv_at hl 1 rfl) ?_
      refine lv_iload_n hx hb dX2_copy_7 rfl (lv_at hl 3 rfl) ?_
      -- c_rowOf_n
      refine pw_cVp (As := [.int (other)]) (rest := []) (wc := [(h, .inr (2, [.ref qr, .ref qp, .int (nI md), .int (r0), .int (r1), .int (r2), .int (r3)])), (qr, .inl (cR, 3, .inr (.inr (.inr (.inr (fun i => some (ro i)))))))]) ⟨hx, hb, hml, hown, hts⟩ (c_rowOf_n l D cI cP cR h qr qp md r0 r1 r2 r3 ro other hx_other) (cwV 1 hts gX2_copy_X2_rowOf rfl rfl rfl (by decide +kernel) ⟨Nat.le_of_ble_eq_true rfl, Nat.le_of_ble_eq_true rfl⟩) hK hP hD [0, 1] rfl (by decide) 0 rfl rfl rfl rfl hl.1 rfl (Nat.le_of_ble_eq_true rfl) dX2_copy_8 ⟨Nat.zero_le _, Nat.zero_le _⟩ ?_
      refine lv_astoreN (lv' := [(4, .null), (3, .ref (ro rj_1)), (0, .ref h), (1, .int (nI rj_1)), (2, .int (other))]) hx hb dX2_copy_11 hl (by decide) rfl (fun ls hl => ?_)
      refine lv_aload_n hx hb dX2_copy_13 rfl (lv_at hl 1 rfl) ?_
      refine lv_ifnull hx hb dX2_copy_14 ?_
      refine lv_aloadN hx hb dX2_copy_17 (lv_at hl 0 rfl) ?_
      refine lv_ifnullN (tgt := 28) hx hb dX2_copy_19 (by decide) ?_
      refine lv_iconst (v := -1) hx hb dX2_copy_28 (by decide) ?_
      exact pw_piret hx hb hr (rfl) hlocks dX2_copy_29 (rfl)
  · have _h := hx_row
    by_cases hx_other : 0 ≤ other ∧ other < nI 3
    · obtain ⟨oj_4, hoj_4, rfl⟩ := pw_inP (by decide) hx_other
      refine lv_aload_n hx hb dX2_copy_0 rfl (lv_at hl 0 rfl) ?_
      refine lv_iload_n hx hb dX2_copy_1 rfl (lv_at hl 1 rfl) ?_
      -- c_rowOf_n
      refine pw_cVp (As := [.int (row)]) (rest := []) (wc := [(h, .inr (2, [.ref qr, .ref qp, .int (nI md), .int (r0), .int (r1), .int (r2), .int (r3)])), (qr, .inl (cR, 3, .inr (.inr (.inr (.inr (fun i => some (ro i)))))))]) ⟨hx, hb, hml, hown, hts⟩ (c_rowOf_n l D cI cP cR h qr qp md r0 r1 r2 r3 ro row hx_row) (cwV 1 hts gX2_copy_X2_rowOf rfl rfl rfl (by decide +kernel) ⟨Nat.le_of_ble_eq_true rfl, Nat.le_of_ble_eq_true rfl⟩) hK hP hD [0, 1] rfl (by decide) 0 rfl rfl rfl rfl hl.1 rfl (Nat.le_of_ble_eq_true rfl) dX2_copy_2 ⟨Nat.zero_le _, Nat.zero_le _⟩ ?_
      refine lv_astore_nN (lv' := [(3, .null), (0, .ref h), (1, .int (row)), (2, .int (nI oj_4))]) hx hb dX2_copy_5 rfl hl (by decide) rfl (fun ls hl => ?_)
      refine lv_aload_n hx hb dX2_copy_6 rfl (lv_at hl 1 rfl) ?_
      refine lv_iload_n hx hb dX2_copy_7 rfl (lv_at hl 3 rfl) ?_
      -- c_rowOf_i
      refine pw_cVp (As := [.int (nI oj_4)]) (rest := []) (wc := [(h, .inr (2, [.ref qr, .ref qp, .int (nI md), .int (r0), .int (r1), .int (r2), .int (r3)])), (qr, .inl (cR, 3, .inr (.inr (.inr (.inr (fun i => some (ro i)))))))]) ⟨hx, hb, hml, hown, hts⟩ (c_rowOf_i l D cI cP cR h qr qp md r0 r1 r2 r3 ro oj_4 (by omega)) (cwV 1 hts gX2_copy_X2_rowOf rfl rfl rfl (by decide +kernel) ⟨Nat.le_of_ble_eq_true rfl, Nat.le_of_ble_eq_true rfl⟩) hK hP hD [0, 1] rfl (by decide) 0 rfl rfl rfl rfl hl.1 rfl (Nat.le_of_ble_eq_true rfl) dX2_copy_8 ⟨Nat.zero_le _, Nat.zero_le _⟩ ?_
      refine lv_astore (lv' := [(4, .ref (ro oj_4)), (3, .null), (0, .ref h), (1, .int (row)), (2, .int (nI oj_4))]) hx hb dX2_copy_11 hl (by decide) rfl (fun ls hl => ?_)
      refine lv_aload_nN hx hb dX2_copy_13 rfl (lv_at hl 1 rfl) ?_
      refine lv_ifnullN (tgt := 28) hx hb dX2_copy_14 (by decide) ?_
      refine lv_iconst (v := -1) hx hb dX2_copy_28 (by decide) ?_
      exact pw_piret hx hb hr (rfl) hlocks dX2_copy_29 (rfl)
    · have _h := hx_other
      refine lv_aload_n hx hb dX2_copy_0 rfl (lv_at hl 0 rfl) ?_
      refine lv_iload_n hx hb dX2_copy_1 rfl (lv_at hl 1 rfl) ?_
      -- c_rowOf_n
      refine pw_cVp (As := [.int (row)]) (rest := []) (wc := [(h, .inr (2, [.ref qr, .ref qp, .int (nI md), .int (r0), .int (r1), .int (r2), .int (r3)])), (qr, .inl (cR, 3, .inr (.inr (.inr (.inr (fun i => some (ro i)))))))]) ⟨hx, hb, hml, hown, hts⟩ (c_rowOf_n l D cI cP cR h qr qp md r0 r1 r2 r3 ro row hx_row) (cwV 1 hts gX2_copy_X2_rowOf rfl rfl rfl (by decide +kernel) ⟨Nat.le_of_ble_eq_true rfl, Nat.le_of_ble_eq_true rfl⟩) hK hP hD [0, 1] rfl (by decide) 0 rfl rfl rfl rfl hl.1 rfl (Nat.le_of_ble_eq_true rfl) dX2_copy_2 ⟨Nat.zero_le _, Nat.zero_le _⟩ ?_
      refine lv_astore_nN (lv' := [(3, .null), (0, .ref h), (1, .int (row)), (2, .int (other))]) hx hb dX2_copy_5 rfl hl (by decide) rfl (fun ls hl => ?_)
      refine lv_aload_n hx hb dX2_copy_6 rfl (lv_at hl 1 rfl) ?_
      refine lv_iload_n hx hb dX2_copy_7 rfl (lv_at hl 3 rfl) ?_
      -- c_rowOf_n
      refine pw_cVp (As := [.int (other)]) (rest := []) (wc := [(h, .inr (2, [.ref qr, .ref qp, .int (nI md), .int (r0), .int (r1), .int (r2), .int (r3)])), (qr, .inl (cR, 3, .inr (.inr (.inr (.inr (fun i => some (ro i)))))))]) ⟨hx, hb, hml, hown, hts⟩ (c_rowOf_n l D cI cP cR h qr qp md r0 r1 r2 r3 ro other hx_other) (cwV 1 hts gX2_copy_X2_rowOf rfl rfl rfl (by decide +kernel) ⟨Nat.le_of_ble_eq_true rfl, Nat.le_of_ble_eq_true rfl⟩) hK hP hD [0, 1] rfl (by decide) 0 rfl rfl rfl rfl hl.1 rfl (Nat.le_of_ble_eq_true rfl) dX2_copy_8 ⟨Nat.zero_le _, Nat.zero_le _⟩ ?_
      refine lv_astoreN (lv' := [(4, .null), (3, .null), (0, .ref h), (1, .int (row)), (2, .int (other))]) hx hb dX2_copy_11 hl (by decide) rfl (fun ls hl => ?_)
      refine lv_aload_nN hx hb dX2_copy_13 rfl (lv_at hl 1 rfl) ?_
      refine lv_ifnullN (tgt := 28) hx hb dX2_copy_14 (by decide) ?_
      refine lv_iconst (v := -1) hx hb dX2_copy_28 (by decide) ?_
      exact pw_piret hx hb hr (rfl) hlocks dX2_copy_29 (rfl)
theorem hi_X2_all_1 : ∀ w ∈ u_ws RX1 TX1 3, w ∈ wsX2_all := by decide +kernel
set_option maxHeartbeats 4000000 in
set_option maxRecDepth 100000 in
theorem k_all_0 (l : Launch) (D : va_G) (cI cP cR : ClassId) (h qr qp md : Nat) (r0 r1 r2 r3 : Int32) (ro : Nat → Nat) (i j a n : Nat) (ch : Int32) (f : Nat → Int32) (a2 n2 : Nat) (ch2 : Int32) (g : Nat → Int32) (hi : i < 3) (hj : j < 3) (hne : ¬ i = j) (hro : ¬ ro i = ro j) (hn : n ≤ 60) (hn2 : n2 ≤ 60) (q : Int32) (hz : n2 = 0) : pw_Mp l yX2_all wsX2_all ({ frames := 2, cells := 0, slots := 0, locals := 46 } : Room) D cI cP cR [.ref h, .int (nI i), .int (q), .int (nI j)] ([(h, .inr (2, [.ref qr, .ref qp, .int (nI md), .int (r0), .int (r1), .int (r2), .int (r3)])), (qr, .inl (cR, 3, .inr (.inr (.inr (.inr (fun i => some (ro i))))))), (ro i, .inr (1, [.ref a, .int (nI n), .int (ch)])), (a, .inl (cI, 60, .inl (f))), (ro j, .inr (1, [.ref a2, .int (nI n2), .int (ch2)])), (a2, .inl (cI, 60, .inl (g)))]) (.int (nI n)) := by
  refine pw_ofp (cc := cX2_all) (maxL := 7) (ret := (some .int)) (own := RX2) (by decide +kernel) rfl rfl (Nat.le_of_ble_eq_true rfl) ?_
  intro p_ e_ s m bel meth cd hE hK hP hD ls hl
  obtain ⟨hx, hb, hr, hml, hown, hts, hlocks⟩ := hE
  have hNW := hK.2
  have hl : lv_has ls 7 [(0, .ref h), (1, .int (nI i)), (2, .int (q)), (3, .int (nI j))] := hl
  refine lv_aload_n hx hb dX2_all_0 rfl (lv_at hl 0 rfl) ?_
  refine lv_iload_n hx hb dX2_all_1 rfl (lv_at hl 1 rfl) ?_
  -- c_rowOf_i
  refine pw_cVp (As := [.int (nI i)]) (rest := []) (wc := [(h, .inr (2, [.ref qr, .ref qp, .int (nI md), .int (r0), .int (r1), .int (r2), .int (r3)])), (qr, .inl (cR, 3, .inr (.inr (.inr (.inr (fun i => some (ro i)))))))]) ⟨hx, hb, hml, hown, hts⟩ (c_rowOf_i l D cI cP cR h qr qp md r0 r1 r2 r3 ro i (by omega)) (cwV 1 hts gX2_all_X2_rowOf rfl rfl rfl (by decide +kernel) ⟨Nat.le_of_ble_eq_true rfl, Nat.le_of_ble_eq_true rfl⟩) hK hP hD [0, 1] rfl (by decide) 0 rfl rfl rfl rfl hl.1 rfl (Nat.le_of_ble_eq_true rfl) dX2_all_2 ⟨Nat.zero_le _, Nat.zero_le _⟩ ?_
  refine lv_astore (lv' := [(4, .ref (ro i)), (0, .ref h), (1, .int (nI i)), (2, .int (q)), (3, .int (nI j))]) hx hb dX2_all_5 hl (by decide) rfl (fun ls hl => ?_)
  refine lv_aload_n hx hb dX2_all_7 rfl (lv_at hl 1 rfl) ?_
  refine lv_iload_n hx hb dX2_all_8 rfl (lv_at hl 4 rfl) ?_
  -- c_rowOf_i
  refine pw_cVp (As := [.int (nI j)]) (rest := []) (wc := [(h, .inr (2, [.ref qr, .ref qp, .int (nI md), .int (r0), .int (r1), .int (r2), .int (r3)])), (qr, .inl (cR, 3, .inr (.inr (.inr (.inr (fun i => some (ro i)))))))]) ⟨hx, hb, hml, hown, hts⟩ (c_rowOf_i l D cI cP cR h qr qp md r0 r1 r2 r3 ro j (by omega)) (cwV 1 hts gX2_all_X2_rowOf rfl rfl rfl (by decide +kernel) ⟨Nat.le_of_ble_eq_true rfl, Nat.le_of_ble_eq_true rfl⟩) hK hP hD [0, 1] rfl (by decide) 0 rfl rfl rfl rfl hl.1 rfl (Nat.le_of_ble_eq_true rfl) dX2_all_9 ⟨Nat.zero_le _, Nat.zero_le _⟩ ?_
  refine lv_astore (lv' := [(5, .ref (ro j)), (4, .ref (ro i)), (0, .ref h), (1, .int (nI i)), (2, .int (q)), (3, .int (nI j))]) hx hb dX2_all_12 hl (by decide) rfl (fun ls hl => ?_)
  refine lv_aload hx hb dX2_all_14 (lv_at hl 1 rfl) ?_
  refine lv_ifnull hx hb dX2_all_16 ?_
  refine lv_aload hx hb dX2_all_19 (lv_at hl 0 rfl) ?_
  refine lv_ifnull hx hb dX2_all_21 ?_
  refine lv_aload hx hb dX2_all_24 (lv_at hl 1 rfl) ?_
  refine lv_aload hx hb dX2_all_26 (lv_at hl 0 rfl) ?_
  refine lv_acmp_ne (rx := (some (ro i))) (ry := (some (ro j))) (tgt := 33) hx hb dX2_all_28 (by decide) (fun c_1 => ?_) (fun c_1 => ?_)
  · have _h := c_1
    refine lv_aload hx hb dX2_all_33 (lv_at hl 0 rfl) ?_
    refine va_getN (D := D) (ci := 1) (v := .int (nI n2)) (C := RX1) (T := TX1) (N := 3) hx hb hts hi_X2_all_1 hown hK.1 hP 4 rfl rfl 1 (by decide) (va_Nw.use rfl hNW.1) (fun _ h9 => h9) rfl dX2_all_35 ?_
    refine pw_if_ne (tgt := 47) hx hb (by omega) dX2_all_38 (by decide) (fun c_2 => ?_) (fun c_2 => ?_)
    · exact absurd hz c_2
    · have _h := c_2
      refine lv_aload hx hb dX2_all_41 (lv_at hl 1 rfl) ?_
      refine va_getN (D := D) (ci := 1) (v := .int (nI n)) (C := RX1) (T := TX1) (N := 3) hx hb hts hi_X2_all_1 hown hK.1 hP 2 rfl rfl 1 (by decide) (va_Nw.use rfl hNW.1) (fun _ h9 => h9) rfl dX2_all_43 ?_
      exact pw_piret hx hb hr (rfl) hlocks dX2_all_46 (rfl)
  · exact absurd (Option.some.inj c_1) hro
set_option maxHeartbeats 4000000 in
set_option maxRecDepth 100000 in
theorem k_all_f (l : Launch) (D : va_G) (cI cP cR : ClassId) (h qr qp md : Nat) (r0 r1 r2 r3 : Int32) (ro : Nat → Nat) (i j a n : Nat) (ch : Int32) (f : Nat → Int32) (a2 n2 : Nat) (ch2 : Int32) (g : Nat → Int32) (hi : i < 3) (hj : j < 3) (hne : ¬ i = j) (hro : ¬ ro i = ro j) (hn : n ≤ 60) (hn2 : n2 ≤ 60) (q : Int32) (hz : ¬ n2 = 0) (hf : ¬ n + n2 ≤ 60) : pw_Mp l yX2_all wsX2_all ({ frames := 2, cells := 0, slots := 0, locals := 46 } : Room) D cI cP cR [.ref h, .int (nI i), .int (q), .int (nI j)] ([(h, .inr (2, [.ref qr, .ref qp, .int (nI md), .int (r0), .int (r1), .int (r2), .int (r3)])), (qr, .inl (cR, 3, .inr (.inr (.inr (.inr (fun i => some (ro i))))))), (ro i, .inr (1, [.ref a, .int (nI n), .int (ch)])), (a, .inl (cI, 60, .inl (f))), (ro j, .inr (1, [.ref a2, .int (nI n2), .int (ch2)])), (a2, .inl (cI, 60, .inl (g)))]) (.int (-3)) := by
  refine pw_ofp (cc := cX2_all) (maxL := 7) (ret := (some .int)) (own := RX2) (by decide +kernel) rfl rfl (Nat.le_of_ble_eq_true rfl) ?_
  intro p_ e_ s m bel meth cd hE hK hP hD ls hl
  obtain ⟨hx, hb, hr, hml, hown, hts, hlocks⟩ := hE
  have hNW := hK.2
  have hl : lv_has ls 7 [(0, .ref h), (1, .int (nI i)), (2, .int (q)), (3, .int (nI j))] := hl
  refine lv_aload_n hx hb dX2_all_0 rfl (lv_at hl 0 rfl) ?_
  refine lv_iload_n hx hb dX2_all_1 rfl (lv_at hl 1 rfl) ?_
  -- c_rowOf_i
  refine pw_cVp (As := [.int (nI i)]) (rest := []) (wc := [(h, .inr (2, [.ref qr, .ref qp, .int (nI md), .int (r0), .int (r1), .int (r2), .int (r3)])), (qr, .inl (cR, 3, .inr (.inr (.inr (.inr (fun i => some (ro i)))))))]) ⟨hx, hb, hml, hown, hts⟩ (c_rowOf_i l D cI cP cR h qr qp md r0 r1 r2 r3 ro i (by omega)) (cwV 1 hts gX2_all_X2_rowOf rfl rfl rfl (by decide +kernel) ⟨Nat.le_of_ble_eq_true rfl, Nat.le_of_ble_eq_true rfl⟩) hK hP hD [0, 1] rfl (by decide) 0 rfl rfl rfl rfl hl.1 rfl (Nat.le_of_ble_eq_true rfl) dX2_all_2 ⟨Nat.zero_le _, Nat.zero_le _⟩ ?_
  refine lv_astore (lv' := [(4, .ref (ro i)), (0, .ref h), (1, .int (nI i)), (2, .int (q)), (3, .int (nI j))]) hx hb dX2_all_5 hl (by decide) rfl (fun ls hl => ?_)
  refine lv_aload_n hx hb dX2_all_7 rfl (lv_at hl 1 rfl) ?_
  refine lv_iload_n hx hb dX2_all_8 rfl (lv_at hl 4 rfl) ?_
  -- c_rowOf_i
  refine pw_cVp (As := [.int (nI j)]) (rest := []) (wc := [(h, .inr (2, [.ref qr, .ref qp, .int (nI md), .int (r0), .int (r1), .int (r2), .int (r3)])), (qr, .inl (cR, 3, .inr (.inr (.inr (.inr (fun i => some (ro i)))))))]) ⟨hx, hb, hml, hown, hts⟩ (c_rowOf_i l D cI cP cR h qr qp md r0 r1 r2 r3 ro j (by omega)) (cwV 1 hts gX2_all_X2_rowOf rfl rfl rfl (by decide +kernel) ⟨Nat.le_of_ble_eq_true rfl, Nat.le_of_ble_eq_true rfl⟩) hK hP hD [0, 1] rfl (by decide) 0 rfl rfl rfl rfl hl.1 rfl (Nat.le_of_ble_eq_true rfl) dX2_all_9 ⟨Nat.zero_le _, Nat.zero_le _⟩ ?_
  refine lv_astore (lv' := [(5, .ref (ro j)), (4, .ref (ro i)), (0, .ref h), (1, .int (nI i)), (2, .int (q)), (3, .int (nI j))]) hx hb dX2_all_12 hl (by decide) rfl (fun ls hl => ?_)
  refine lv_aload hx hb dX2_all_14 (lv_at hl 1 rfl) ?_
  refine lv_ifnull hx hb dX2_all_16 ?_
  refine lv_aload hx hb dX2_all_19 (lv_at hl 0 rfl) ?_
  refine lv_ifnull hx hb dX2_all_21 ?_
  refine lv_aload hx hb dX2_all_24 (lv_at hl 1 rfl) ?_
  refine lv_aload hx hb dX2_all_26 (lv_at hl 0 rfl) ?_
  refine lv_acmp_ne (rx := (some (ro i))) (ry := (some (ro j))) (tgt := 33) hx hb dX2_all_28 (by decide) (fun c_1 => ?_) (fun c_1 => ?_)
  · have _h := c_1
    refine lv_aload hx hb dX2_all_33 (lv_at hl 0 rfl) ?_
    refine va_getN (D := D) (ci := 1) (v := .int (nI n2)) (C := RX1) (T := TX1) (N := 3) hx hb hts hi_X2_all_1 hown hK.1 hP 4 rfl rfl 1 (by decide) (va_Nw.use rfl hNW.1) (fun _ h9 => h9) rfl dX2_all_35 ?_
    refine pw_if_ne (tgt := 47) hx hb (by omega) dX2_all_38 (by decide) (fun c_2 => ?_) (fun c_2 => ?_)
    · have _h := c_2
      refine lv_aload hx hb dX2_all_47 (lv_at hl 1 rfl) ?_
      refine lv_aload hx hb dX2_all_49 (lv_at hl 0 rfl) ?_
      refine va_getN (D := D) (ci := 1) (v := .int (nI n2)) (C := RX1) (T := TX1) (N := 3) hx hb hts hi_X2_all_1 hown hK.1 hP 4 rfl rfl 1 (by decide) (va_Nw.use rfl hNW.1) (fun _ h9 => h9) rfl dX2_all_51 ?_
      -- c_hasRoomFor_f
      refine pw_cVp (As := [.int (nI n2)]) (rest := []) (wc := [(ro i, .inr (1, [.ref a, .int (nI n), .int (ch)])), (a, .inl (cI, 60, .inl (f)))]) ⟨hx, hb, hml, hown, hts⟩ (c_hasRoomFor_f l D cI cP cR (ro i) a n ch f n2 (by omega) (by omega) (by omega)) (cwV 1 hts gX2_all_X1_hasRoomFor rfl rfl rfl (by decide +kernel) ⟨Nat.le_of_ble_eq_true rfl, Nat.le_of_ble_eq_true rfl⟩) hK hP hD [2, 3] rfl (by decide) 0 rfl rfl rfl rfl hl.1 rfl (Nat.le_of_ble_eq_true rfl) dX2_all_54 ⟨Nat.zero_le _, Nat.zero_le _⟩ ?_
      refine lv_if_ne (tgt := 63) hx hb dX2_all_57 (by decide) (fun c => absurd c (by decide)) (fun c => ?_)
      refine lv_bipush (v := -3) hx hb dX2_all_60 (by decide) ?_
      exact pw_piret hx hb hr (rfl) hlocks dX2_all_62 (rfl)
    · exact absurd c_2 hz
  · exact absurd (Option.some.inj c_1) hro
set_option maxHeartbeats 4000000 in
set_option maxRecDepth 100000 in
theorem k_all_p (l : Launch) (D : va_G) (cI cP cR : ClassId) (h qr qp md : Nat) (r0 r1 r2 r3 : Int32) (ro : Nat → Nat) (i j a n : Nat) (ch : Int32) (f : Nat → Int32) (a2 n2 : Nat) (ch2 : Int32) (g : Nat → Int32) (hi : i < 3) (hj : j < 3) (hne : ¬ i = j) (hro : ¬ ro i = ro j) (hn : n ≤ 60) (hn2 : n2 ≤ 60) (q : Int32) (hz : ¬ n2 = 0) (hf : n + n2 ≤ 60) (hq1 : ¬ q = -1) (hq : ¬ (0 ≤ q ∧ q ≤ nI n)) : pw_Mm l yX2_all wsX2_all ({ frames := 2, cells := 0, slots := 0, locals := 46 } : Room) D cI cP cR [.ref h, .int (nI i), .int (q), .int (nI j)] ([(h, .inr (2, [.ref qr, .ref qp, .int (nI md), .int (r0), .int (r1), .int (r2), .int (r3)])), (qr, .inl (cR, 3, .inr (.inr (.inr (.inr (fun i => some (ro i))))))), (ro i, .inr (1, [.ref a, .int (nI n), .int (ch)])), (a, .inl (cI, 60, .inl (f))), (ro j, .inr (1, [.ref a2, .int (nI n2), .int (ch2)])), (a2, .inl (cI, 60, .inl (g)))]) (fun v w => v = some (.int (-5)) ∧ w = [(h, .inr (2, [.ref qr, .ref qp, .int (nI md), .int (r0), .int (r1 + nI 1), .int (r2), .int (r3)])), (qr, .inl (cR, 3, .inr (.inr (.inr (.inr (fun i => some (ro i))))))), (ro i, .inr (1, [.ref a, .int (nI n), .int (ch)])), (a, .inl (cI, 60, .inl (f))), (ro j, .inr (1, [.ref a2, .int (nI n2), .int (ch2)])), (a2, .inl (cI, 60, .inl (g)))]) := by
  refine pw_ofm (cc := cX2_all) (maxL := 7) (ret := (some .int)) (own := RX2) (by decide +kernel) rfl rfl (Nat.le_of_ble_eq_true rfl) ?_
  intro p_ e_ s m bel meth cd A hE hK hP hD hA hS ls hl
  obtain ⟨hx, hb, hr, hml, hown, hts, hlocks⟩ := hE
  have hNW := hK.2
  have hl : lv_has ls 7 [(0, .ref h), (1, .int (nI i)), (2, .int (q)), (3, .int (nI j))] := hl
  refine lv_aload_n hx hb dX2_all_0 rfl (lv_at hl 0 rfl) ?_
  refine lv_iload_n hx hb dX2_all_1 rfl (lv_at hl 1 rfl) ?_
  -- c_rowOf_i
  refine pw_cVp (As := [.int (nI i)]) (rest := []) (wc := [(h, .inr (2, [.ref qr, .ref qp, .int (nI md), .int (r0), .int (r1), .int (r2), .int (r3)])), (qr, .inl (cR, 3, .inr (.inr (.inr (.inr (fun i => some (ro i)))))))]) ⟨hx, hb, hml, hown, hts⟩ (c_rowOf_i l D cI cP cR h qr qp md r0 r1 r2 r3 ro i (by omega)) (cwV 1 hts gX2_all_X2_rowOf rfl rfl rfl (by decide +kernel) ⟨Nat.le_of_ble_eq_true rfl, Nat.le_of_ble_eq_true rfl⟩) hK hP hD [0, 1] rfl (by decide) 0 rfl rfl rfl rfl hl.1 rfl (Nat.le_of_ble_eq_true rfl) dX2_all_2 ⟨Nat.zero_le _, Nat.zero_le _⟩ ?_
  refine lv_astore (lv' := [(4, .ref (ro i)), (0, .ref h), (1, .int (nI i)), (2, .int (q)), (3, .int (nI j))]) hx hb dX2_all_5 hl (by decide) rfl (fun ls hl => ?_)
  refine lv_aload_n hx hb dX2_all_7 rfl (lv_at hl 1 rfl) ?_
  refine lv_iload_n hx hb dX2_all_8 rfl (lv_at hl 4 rfl) ?_
  -- c_rowOf_i
  refine pw_cVp (As := [.int (nI j)]) (rest := []) (wc := [(h, .inr (2, [.ref qr, .ref qp, .int (nI md), .int (r0), .int (r1), .int (r2), .int (r3)])), (qr, .inl (cR, 3, .inr (.inr (.inr (.inr (fun i => some (ro i)))))))]) ⟨hx, hb, hml, hown, hts⟩ (c_rowOf_i l D cI cP cR h qr qp md r0 r1 r2 r3 ro j (by omega)) (cwV 1 hts gX2_all_X2_rowOf rfl rfl rfl (by decide +kernel) ⟨Nat.le_of_ble_eq_true rfl, Nat.le_of_ble_eq_true rfl⟩) hK hP hD [0, 1] rfl (by decide) 0 rfl rfl rfl rfl hl.1 rfl (Nat.le_of_ble_eq_true rfl) dX2_all_9 ⟨Nat.zero_le _, Nat.zero_le _⟩ ?_
  refine lv_astore (lv' := [(5, .ref (ro j)), (4, .ref (ro i)), (0, .ref h), (1, .int (nI i)), (2, .int (q)), (3, .int (nI j))]) hx hb dX2_all_12 hl (by decide) rfl (fun ls hl => ?_)
  refine lv_aload hx hb dX2_all_14 (lv_at hl 1 rfl) ?_
  refine lv_ifnull hx hb dX2_all_16 ?_
  refine lv_aload hx hb dX2_all_19 (lv_at hl 0 rfl) ?_
  refine lv_ifnull hx hb dX2_all_21 ?_
  refine lv_aload hx hb dX2_all_24 (lv_at hl 1 rfl) ?_
  refine lv_aload hx hb dX2_all_26 (lv_at hl 0 rfl) ?_
  refine lv_acmp_ne (rx := (some (ro i))) (ry := (some (ro j))) (tgt := 33) hx hb dX2_all_28 (by decide) (fun c_1 => ?_) (fun c_1 => ?_)
  · have _h := c_1
    refine lv_aload hx hb dX2_all_33 (lv_at hl 0 rfl) ?_
    refine va_getN (D := D) (ci := 1) (v := .int (nI n2)) (C := RX1) (T := TX1) (N := 3) hx hb hts hi_X2_all_1 hown hK.1 hP 4 rfl rfl 1 (by decide) (va_Nw.use rfl hNW.1) (fun _ h9 => h9) rfl dX2_all_35 ?_
    refine pw_if_ne (tgt := 47) hx hb (by omega) dX2_all_38 (by decide) (fun c_2 => ?_) (fun c_2 => ?_)
    · have _h := c_2
      refine lv_aload hx hb dX2_all_47 (lv_at hl 1 rfl) ?_
      refine lv_aload hx hb dX2_all_49 (lv_at hl 0 rfl) ?_
      refine va_getN (D := D) (ci := 1) (v := .int (nI n2)) (C := RX1) (T := TX1) (N := 3) hx hb hts hi_X2_all_1 hown hK.1 hP 4 rfl rfl 1 (by decide) (va_Nw.use rfl hNW.1) (fun _ h9 => h9) rfl dX2_all_51 ?_
      -- c_hasRoomFor_t
      refine pw_cVp (As := [.int (nI n2)]) (rest := []) (wc := [(ro i, .inr (1, [.ref a, .int (nI n), .int (ch)])), (a, .inl (cI, 60, .inl (f)))]) ⟨hx, hb, hml, hown, hts⟩ (c_hasRoomFor_t l D cI cP cR (ro i) a n ch f n2 (by omega)) (cwV 1 hts gX2_all_X1_hasRoomFor rfl rfl rfl (by decide +kernel) ⟨Nat.le_of_ble_eq_true rfl, Nat.le_of_ble_eq_true rfl⟩) hK hP hD [2, 3] rfl (by decide) 0 rfl rfl rfl rfl hl.1 rfl (Nat.le_of_ble_eq_true rfl) dX2_all_54 ⟨Nat.zero_le _, Nat.zero_le _⟩ ?_
      refine lv_if_ne (tgt := 63) hx hb dX2_all_57 (by decide) (fun c => ?_) (fun c => absurd c (by decide))
      refine lv_iload_n hx hb dX2_all_63 rfl (lv_at hl 4 rfl) ?_
      refine lv_iconst (v := -1) hx hb dX2_all_64 (by decide) ?_
      refine lv_icmp_ne (tgt := 76) hx hb dX2_all_65 (by decide) (fun c_3 => ?_) (fun c_3 => ?_)
      · have _h := c_3
        refine lv_iload_n hx hb dX2_all_76 rfl (lv_at hl 4 rfl) ?_
        refine lv_istore (lv' := [(6, .int (q)), (5, .ref (ro j)), (4, .ref (ro i)), (0, .ref h), (1, .int (nI i)), (2, .int (q)), (3, .int (nI j))]) hx hb dX2_all_77 hl (by decide) rfl (fun ls hl => ?_)
        refine lv_aload hx hb dX2_all_79 (lv_at hl 2 rfl) ?_
        refine lv_iload hx hb dX2_all_81 (lv_at hl 0 rfl) ?_
        -- c_canPutAt_f
        refine pw_cVp (As := [.int (q)]) (rest := []) (wc := [(ro i, .inr (1, [.ref a, .int (nI n), .int (ch)])), (a, .inl (cI, 60, .inl (f)))]) ⟨hx, hb, hml, hown, hts⟩ (c_canPutAt_f l D cI cP cR (ro i) a n ch f q hq) (cwV 1 hts gX2_all_X1_canPutAt rfl rfl rfl (by decide +kernel) ⟨Nat.le_of_ble_eq_true rfl, Nat.le_of_ble_eq_true rfl⟩) hK hP hD [2, 3] rfl (by decide) 0 rfl rfl rfl rfl hl.1 rfl (Nat.le_of_ble_eq_true rfl) dX2_all_83 ⟨Nat.zero_le _, Nat.zero_le _⟩ ?_
        refine lv_if_ne (tgt := 96) hx hb dX2_all_86 (by decide) (fun c => absurd c (by decide)) (fun c => ?_)
        refine lv_aload_n hx hb dX2_all_89 rfl (lv_at hl 3 rfl) ?_
        refine lv_bipush (v := -5) hx hb dX2_all_90 (by decide) ?_
        -- c_refused_p
        refine pw_cVm (As := [.int (-5)]) (rest := []) (wc := [(h, .inr (2, [.ref qr, .ref qp, .int (nI md), .int (r0), .int (r1), .int (r2), .int (r3)]))]) (wr := [(qr, .inl (cR, 3, .inr (.inr (.inr (.inr (fun i => some (ro i))))))), (ro i, .inr (1, [.ref a, .int (nI n), .int (ch)])), (a, .inl (cI, 60, .inl (f))), (ro j, .inr (1, [.ref a2, .int (nI n2), .int (ch2)])), (a2, .inl (cI, 60, .inl (g)))]) ⟨hx, hb, hml, hown, hts⟩ (c_refused_p l D cI cP cR h qr qp md r0 r1 r2 r3) (cwV 1 hts gX2_all_X2_refused rfl rfl rfl (by decide +kernel) ⟨Nat.le_of_ble_eq_true rfl, Nat.le_of_ble_eq_true rfl⟩) hK hP hD hS hA [0] [1, 2, 3, 4, 5] rfl rfl (by decide) (by decide) (by decide) 0 rfl rfl rfl rfl hl.1 rfl (Nat.le_of_ble_eq_true rfl) dX2_all_92 ⟨Nat.zero_le _, Nat.zero_le _⟩ (fun v1 w1 H locs hq hP hD hS => ?_)
        rcases hq with ⟨rfl, rfl⟩
        have hP : va_P D vwCl ([(qr, .inl (cR, 3, .inr (.inr (.inr (.inr (fun i => some (ro i))))))), (ro i, .inr (1, [.ref a, .int (nI n), .int (ch)])), (a, .inl (cI, 60, .inl (f))), (ro j, .inr (1, [.ref a2, .int (nI n2), .int (ch2)])), (a2, .inl (cI, 60, .inl (g))), (h, .inr (2, [.ref qr, .ref qp, .int (nI md), .int (r0), .int (r1 + nI 1), .int (r2), .int (r3)]))]) H := hP
        have hD : va_D A ([(qr, .inl (cR, 3, .inr (.inr (.inr (.inr (fun i => some (ro i))))))), (ro i, .inr (1, [.ref a, .int (nI n), .int (ch)])), (a, .inl (cI, 60, .inl (f))), (ro j, .inr (1, [.ref a2, .int (nI n2), .int (ch2)])), (a2, .inl (cI, 60, .inl (g))), (h, .inr (2, [.ref qr, .ref qp, .int (nI md), .int (r0), .int (r1 + nI 1), .int (r2), .int (r3)]))]) := hD
        refine W.eq (g2 := F0 m 95 ls [.int (-5)]) rfl ?_
        have hP := hP.sub (ws' := [(h, .inr (2, [.ref qr, .ref qp, .int (nI md), .int (r0), .int (r1 + nI 1), .int (r2), .int (r3)])), (qr, .inl (cR, 3, .inr (.inr (.inr (.inr (fun i => some (ro i))))))), (ro i, .inr (1, [.ref a, .int (nI n), .int (ch)])), (a, .inl (cI, 60, .inl (f))), (ro j, .inr (1, [.ref a2, .int (nI n2), .int (ch2)])), (a2, .inl (cI, 60, .inl (g)))]) [5, 0, 1, 2, 3, 4] rfl
        have hD := hD.sub (ws' := [(h, .inr (2, [.ref qr, .ref qp, .int (nI md), .int (r0), .int (r1 + nI 1), .int (r2), .int (r3)])), (qr, .inl (cR, 3, .inr (.inr (.inr (.inr (fun i => some (ro i))))))), (ro i, .inr (1, [.ref a, .int (nI n), .int (ch)])), (a, .inl (cI, 60, .inl (f))), (ro j, .inr (1, [.ref a2, .int (nI n2), .int (ch2)])), (a2, .inl (cI, 60, .inl (g)))]) [5, 0, 1, 2, 3, 4] (by decide) rfl
        exact pw_iret hx hb hr (rfl) hlocks dX2_all_95 hS hP hD (⟨rfl, rfl⟩)
      · exact absurd c_3 hq1
    · exact absurd c_2 hz
  · exact absurd (Option.some.inj c_1) hro
set_option maxHeartbeats 4000000 in
set_option maxRecDepth 100000 in
theorem k_all_e (l : Launch) (D : va_G) (cI cP cR : ClassId) (h qr qp md : Nat) (r0 r1 r2 r3 : Int32) (ro : Nat → Nat) (i j a n : Nat) (ch : Int32) (f : Nat → Int32) (a2 n2 : Nat) (ch2 : Int32) (g : Nat → Int32) (hi : i < 3) (hj : j < 3) (hne : ¬ i = j) (hro : ¬ ro i = ro j) (hn : n ≤ 60) (hn2 : n2 ≤ 60) (hz : ¬ n2 = 0) (hf : n + n2 ≤ 60) : pw_Mm l yX2_all wsX2_all ({ frames := 2, cells := 0, slots := 0, locals := 46 } : Room) D cI cP cR [.ref h, .int (nI i), .int (-1), .int (nI j)] ([(h, .inr (2, [.ref qr, .ref qp, .int (nI md), .int (r0), .int (r1), .int (r2), .int (r3)])), (qr, .inl (cR, 3, .inr (.inr (.inr (.inr (fun i => some (ro i))))))), (ro i, .inr (1, [.ref a, .int (nI n), .int (ch)])), (a, .inl (cI, 60, .inl (f))), (ro j, .inr (1, [.ref a2, .int (nI n2), .int (ch2)])), (a2, .inl (cI, 60, .inl (g)))]) (fun v w => v = some (.int (nI (n + n2))) ∧ w = [(h, .inr (2, [.ref qr, .ref qp, .int (nI md), .int (r0), .int (r1), .int (r2), .int (r3)])), (qr, .inl (cR, 3, .inr (.inr (.inr (.inr (fun i => some (ro i))))))), (ro i, .inr (1, [.ref a, .int (nI (n + n2)), .int (ch + nI 1)])), (a, .inl (cI, 60, .inl (putF (opn f n n2 n) n g n2))), (ro j, .inr (1, [.ref a2, .int (nI n2), .int (ch2)])), (a2, .inl (cI, 60, .inl (g)))]) := by
  refine pw_ofm (cc := cX2_all) (maxL := 7) (ret := (some .int)) (own := RX2) (by decide +kernel) rfl rfl (Nat.le_of_ble_eq_true rfl) ?_
  intro p_ e_ s m bel meth cd A hE hK hP hD hA hS ls hl
  obtain ⟨hx, hb, hr, hml, hown, hts, hlocks⟩ := hE
  have hNW := hK.2
  have hl : lv_has ls 7 [(0, .ref h), (1, .int (nI i)), (2, .int (-1)), (3, .int (nI j))] := hl
  refine lv_aload_n hx hb dX2_all_0 rfl (lv_at hl 0 rfl) ?_
  refine lv_iload_n hx hb dX2_all_1 rfl (lv_at hl 1 rfl) ?_
  -- c_rowOf_i
  refine pw_cVp (As := [.int (nI i)]) (rest := []) (wc := [(h, .inr (2, [.ref qr, .ref qp, .int (nI md), .int (r0), .int (r1), .int (r2), .int (r3)])), (qr, .inl (cR, 3, .inr (.inr (.inr (.inr (fun i => some (ro i)))))))]) ⟨hx, hb, hml, hown, hts⟩ (c_rowOf_i l D cI cP cR h qr qp md r0 r1 r2 r3 ro i (by omega)) (cwV 1 hts gX2_all_X2_rowOf rfl rfl rfl (by decide +kernel) ⟨Nat.le_of_ble_eq_true rfl, Nat.le_of_ble_eq_true rfl⟩) hK hP hD [0, 1] rfl (by decide) 0 rfl rfl rfl rfl hl.1 rfl (Nat.le_of_ble_eq_true rfl) dX2_all_2 ⟨Nat.zero_le _, Nat.zero_le _⟩ ?_
  refine lv_astore (lv' := [(4, .ref (ro i)), (0, .ref h), (1, .int (nI i)), (2, .int (-1)), (3, .int (nI j))]) hx hb dX2_all_5 hl (by decide) rfl (fun ls hl => ?_)
  refine lv_aload_n hx hb dX2_all_7 rfl (lv_at hl 1 rfl) ?_
  refine lv_iload_n hx hb dX2_all_8 rfl (lv_at hl 4 rfl) ?_
  -- c_rowOf_i
  refine pw_cVp (As := [.int (nI j)]) (rest := []) (wc := [(h, .inr (2, [.ref qr, .ref qp, .int (nI md), .int (r0), .int (r1), .int (r2), .int (r3)])), (qr, .inl (cR, 3, .inr (.inr (.inr (.inr (fun i => some (ro i)))))))]) ⟨hx, hb, hml, hown, hts⟩ (c_rowOf_i l D cI cP cR h qr qp md r0 r1 r2 r3 ro j (by omega)) (cwV 1 hts gX2_all_X2_rowOf rfl rfl rfl (by decide +kernel) ⟨Nat.le_of_ble_eq_true rfl, Nat.le_of_ble_eq_true rfl⟩) hK hP hD [0, 1] rfl (by decide) 0 rfl rfl rfl rfl hl.1 rfl (Nat.le_of_ble_eq_true rfl) dX2_all_9 ⟨Nat.zero_le _, Nat.zero_le _⟩ ?_
  refine lv_astore (lv' := [(5, .ref (ro j)), (4, .ref (ro i)), (0, .ref h), (1, .int (nI i)), (2, .int (-1)), (3, .int (nI j))]) hx hb dX2_all_12 hl (by decide) rfl (fun ls hl => ?_)
  refine lv_aload hx hb dX2_all_14 (lv_at hl 1 rfl) ?_
  refine lv_ifnull hx hb dX2_all_16 ?_
  refine lv_aload hx hb dX2_all_19 (lv_at hl 0 rfl) ?_
  refine lv_ifnull hx hb dX2_all_21 ?_
  refine lv_aload hx hb dX2_all_24 (lv_at hl 1 rfl) ?_
  refine lv_aload hx hb dX2_all_26 (lv_at hl 0 rfl) ?_
  refine lv_acmp_ne (rx := (some (ro i))) (ry := (some (ro j))) (tgt := 33) hx hb dX2_all_28 (by decide) (fun c_1 => ?_) (fun c_1 => ?_)
  · have _h := c_1
    refine lv_aload hx hb dX2_all_33 (lv_at hl 0 rfl) ?_
    refine va_getN (D := D) (ci := 1) (v := .int (nI n2)) (C := RX1) (T := TX1) (N := 3) hx hb hts hi_X2_all_1 hown hK.1 hP 4 rfl rfl 1 (by decide) (va_Nw.use rfl hNW.1) (fun _ h9 => h9) rfl dX2_all_35 ?_
    refine pw_if_ne (tgt := 47) hx hb (by omega) dX2_all_38 (by decide) (fun c_2 => ?_) (fun c_2 => ?_)
    · have _h := c_2
      refine lv_aload hx hb dX2_all_47 (lv_at hl 1 rfl) ?_
      refine lv_aload hx hb dX2_all_49 (lv_at hl 0 rfl) ?_
      refine va_getN (D := D) (ci := 1) (v := .int (nI n2)) (C := RX1) (T := TX1) (N := 3) hx hb hts hi_X2_all_1 hown hK.1 hP 4 rfl rfl 1 (by decide) (va_Nw.use rfl hNW.1) (fun _ h9 => h9) rfl dX2_all_51 ?_
      -- c_hasRoomFor_t
      refine pw_cVp (As := [.int (nI n2)]) (rest := []) (wc := [(ro i, .inr (1, [.ref a, .int (nI n), .int (ch)])), (a, .inl (cI, 60, .inl (f)))]) ⟨hx, hb, hml, hown, hts⟩ (c_hasRoomFor_t l D cI cP cR (ro i) a n ch f n2 (by omega)) (cwV 1 hts gX2_all_X1_hasRoomFor rfl rfl rfl (by decide +kernel) ⟨Nat.le_of_ble_eq_true rfl, Nat.le_of_ble_eq_true rfl⟩) hK hP hD [2, 3] rfl (by decide) 0 rfl rfl rfl rfl hl.1 rfl (Nat.le_of_ble_eq_true rfl) dX2_all_54 ⟨Nat.zero_le _, Nat.zero_le _⟩ ?_
      refine lv_if_ne (tgt := 63) hx hb dX2_all_57 (by decide) (fun c => ?_) (fun c => absurd c (by decide))
      refine lv_iload_n hx hb dX2_all_63 rfl (lv_at hl 4 rfl) ?_
      refine lv_iconst (v := -1) hx hb dX2_all_64 (by decide) ?_
      refine lv_icmp_ne (tgt := 76) hx hb dX2_all_65 (by decide) (fun c_3 => ?_) (fun c_3 => ?_)
      · exact absurd rfl c_3
      · have _h := c_3
        refine lv_aload hx hb dX2_all_68 (lv_at hl 1 rfl) ?_
        refine va_getN (D := D) (ci := 1) (v := .int (nI n)) (C := RX1) (T := TX1) (N := 3) hx hb hts hi_X2_all_1 hown hK.1 hP 2 rfl rfl 1 (by decide) (va_Nw.use rfl hNW.1) (fun _ h9 => h9) rfl dX2_all_70 ?_
        refine lv_goto (tgt := 77) hx hb dX2_all_73 (by decide) ?_
        refine lv_istore (lv' := [(6, .int (nI n)), (5, .ref (ro j)), (4, .ref (ro i)), (0, .ref h), (1, .int (nI i)), (2, .int (-1)), (3, .int (nI j))]) hx hb dX2_all_77 hl (by decide) rfl (fun ls hl => ?_)
        refine lv_aload hx hb dX2_all_79 (lv_at hl 2 rfl) ?_
        refine lv_iload hx hb dX2_all_81 (lv_at hl 0 rfl) ?_
        -- c_canPutAt_t
        refine pw_cVp (As := [.int (nI n)]) (rest := []) (wc := [(ro i, .inr (1, [.ref a, .int (nI n), .int (ch)])), (a, .inl (cI, 60, .inl (f)))]) ⟨hx, hb, hml, hown, hts⟩ (c_canPutAt_t l D cI cP cR (ro i) a n ch f n (by omega) (by omega)) (cwV 1 hts gX2_all_X1_canPutAt rfl rfl rfl (by decide +kernel) ⟨Nat.le_of_ble_eq_true rfl, Nat.le_of_ble_eq_true rfl⟩) hK hP hD [2, 3] rfl (by decide) 0 rfl rfl rfl rfl hl.1 rfl (Nat.le_of_ble_eq_true rfl) dX2_all_83 ⟨Nat.zero_le _, Nat.zero_le _⟩ ?_
        refine lv_if_ne (tgt := 96) hx hb dX2_all_86 (by decide) (fun c => ?_) (fun c => absurd c (by decide))
        refine lv_aload hx hb dX2_all_96 (lv_at hl 2 rfl) ?_
        refine lv_iload hx hb dX2_all_98 (lv_at hl 0 rfl) ?_
        refine lv_aload hx hb dX2_all_100 (lv_at hl 1 rfl) ?_
        -- c_putAllAt
        refine pw_cVm (As := [.int (nI n), .ref (ro j)]) (rest := []) (wc := [(ro i, .inr (1, [.ref a, .int (nI n), .int (ch)])), (a, .inl (cI, 60, .inl (f))), (ro j, .inr (1, [.ref a2, .int (nI n2), .int (ch2)])), (a2, .inl (cI, 60, .inl (g)))]) (wr := [(h, .inr (2, [.ref qr, .ref qp, .int (nI md), .int (r0), .int (r1), .int (r2), .int (r3)])), (qr, .inl (cR, 3, .inr (.inr (.inr (.inr (fun i => some (ro i)))))))]) ⟨hx, hb, hml, hown, hts⟩ (c_putAllAt l D cI cP cR (ro i) a n ch f (ro j) a2 n2 ch2 g n (by omega) (by omega) (by omega)) (cwV 2 hts gX2_all_X1_putAllAt rfl rfl rfl (by decide +kernel) ⟨Nat.le_of_ble_eq_true rfl, Nat.le_of_ble_eq_true rfl⟩) hK hP hD hS hA [2, 3, 4, 5] [0, 1] rfl rfl (by decide) (by decide) (by decide) 0 rfl rfl rfl rfl hl.1 rfl (Nat.le_of_ble_eq_true rfl) dX2_all_102 ⟨Nat.zero_le _, Nat.zero_le _⟩ (fun v1 w1 H locs hq hP hD hS => ?_)
        rcases hq with ⟨rfl, rfl⟩
        have hP : va_P D vwCl ([(h, .inr (2, [.ref qr, .ref qp, .int (nI md), .int (r0), .int (r1), .int (r2), .int (r3)])), (qr, .inl (cR, 3, .inr (.inr (.inr (.inr (fun i => some (ro i))))))), (ro i, .inr (1, [.ref a, .int (nI (n + n2)), .int (ch + nI 1)])), (a, .inl (cI, 60, .inl (putF (opn f n n2 n) n g n2))), (ro j, .inr (1, [.ref a2, .int (nI n2), .int (ch2)])), (a2, .inl (cI, 60, .inl (g)))]) H := hP
        have hD : va_D A ([(h, .inr (2, [.ref qr, .ref qp, .int (nI md), .int (r0), .int (r1), .int (r2), .int (r3)])), (qr, .inl (cR, 3, .inr (.inr (.inr (.inr (fun i => some (ro i))))))), (ro i, .inr (1, [.ref a, .int (nI (n + n2)), .int (ch + nI 1)])), (a, .inl (cI, 60, .inl (putF (opn f n n2 n) n g n2))), (ro j, .inr (1, [.ref a2, .int (nI n2), .int (ch2)])), (a2, .inl (cI, 60, .inl (g)))]) := hD
        refine W.eq (g2 := F0 m 105 ls []) rfl ?_
        refine lv_aload hx hb dX2_all_105 (lv_at hl 2 rfl) ?_
        refine va_getN (D := D) (ci := 1) (v := .int (nI (n + n2))) (C := RX1) (T := TX1) (N := 3) hx hb hts hi_X2_all_1 hown hK.1 hP 2 rfl rfl 1 (by decide) (va_Nw.use rfl hNW.1) (fun _ h9 => h9) rfl dX2_all_107 ?_
        have hP := hP.sub (ws' := [(h, .inr (2, [.ref qr, .ref qp, .int (nI md), .int (r0), .int (r1), .int (r2), .int (r3)])), (qr, .inl (cR, 3, .inr (.inr (.inr (.inr (fun i => some (ro i))))))), (ro i, .inr (1, [.ref a, .int (nI (n + n2)), .int (ch + nI 1)])), (a, .inl (cI, 60, .inl (putF (opn f n n2 n) n g n2))), (ro j, .inr (1, [.ref a2, .int (nI n2), .int (ch2)])), (a2, .inl (cI, 60, .inl (g)))]) [0, 1, 2, 3, 4, 5] rfl
        have hD := hD.sub (ws' := [(h, .inr (2, [.ref qr, .ref qp, .int (nI md), .int (r0), .int (r1), .int (r2), .int (r3)])), (qr, .inl (cR, 3, .inr (.inr (.inr (.inr (fun i => some (ro i))))))), (ro i, .inr (1, [.ref a, .int (nI (n + n2)), .int (ch + nI 1)])), (a, .inl (cI, 60, .inl (putF (opn f n n2 n) n g n2))), (ro j, .inr (1, [.ref a2, .int (nI n2), .int (ch2)])), (a2, .inl (cI, 60, .inl (g)))]) [0, 1, 2, 3, 4, 5] (by decide) rfl
        exact pw_iret hx hb hr (rfl) hlocks dX2_all_110 hS hP hD (⟨rfl, rfl⟩)
    · exact absurd c_2 hz
  · exact absurd (Option.some.inj c_1) hro
set_option maxHeartbeats 4000000 in
set_option maxRecDepth 100000 in
theorem k_all (l : Launch) (D : va_G) (cI cP cR : ClassId) (h qr qp md : Nat) (r0 r1 r2 r3 : Int32) (ro : Nat → Nat) (i j a n : Nat) (ch : Int32) (f : Nat → Int32) (a2 n2 : Nat) (ch2 : Int32) (g : Nat → Int32) (hi : i < 3) (hj : j < 3) (hne : ¬ i = j) (hro : ¬ ro i = ro j) (hn : n ≤ 60) (hn2 : n2 ≤ 60) (q : Nat) (hz : ¬ n2 = 0) (hf : n + n2 ≤ 60) (hq : q ≤ n) : pw_Mm l yX2_all wsX2_all ({ frames := 2, cells := 0, slots := 0, locals := 46 } : Room) D cI cP cR [.ref h, .int (nI i), .int (nI q), .int (nI j)] ([(h, .inr (2, [.ref qr, .ref qp, .int (nI md), .int (r0), .int (r1), .int (r2), .int (r3)])), (qr, .inl (cR, 3, .inr (.inr (.inr (.inr (fun i => some (ro i))))))), (ro i, .inr (1, [.ref a, .int (nI n), .int (ch)])), (a, .inl (cI, 60, .inl (f))), (ro j, .inr (1, [.ref a2, .int (nI n2), .int (ch2)])), (a2, .inl (cI, 60, .inl (g)))]) (fun v w => v = some (.int (nI (n + n2))) ∧ w = [(h, .inr (2, [.ref qr, .ref qp, .int (nI md), .int (r0), .int (r1), .int (r2), .int (r3)])), (qr, .inl (cR, 3, .inr (.inr (.inr (.inr (fun i => some (ro i))))))), (ro i, .inr (1, [.ref a, .int (nI (n + n2)), .int (ch + nI 1)])), (a, .inl (cI, 60, .inl (putF (opn f q n2 n) q g n2))), (ro j, .inr (1, [.ref a2, .int (nI n2), .int (ch2)])), (a2, .inl (cI, 60, .inl (g)))]) := by
  refine pw_ofm (cc := cX2_all) (maxL := 7) (ret := (some .int)) (own := RX2) (by decide +kernel) rfl rfl (Nat.le_of_ble_eq_true rfl) ?_
  intro p_ e_ s m bel meth cd A hE hK hP hD hA hS ls hl
  obtain ⟨hx, hb, hr, hml, hown, hts, hlocks⟩ := hE
  have hNW := hK.2
  have hl : lv_has ls 7 [(0, .ref h), (1, .int (nI i)), (2, .int (nI q)), (3, .int (nI j))] := hl
  refine lv_aload_n hx hb dX2_all_0 rfl (lv_at hl 0 rfl) ?_
  refine lv_iload_n hx hb dX2_all_1 rfl (lv_at hl 1 rfl) ?_
  -- c_rowOf_i
  refine pw_cVp (As := [.int (nI i)]) (rest := []) (wc := [(h, .inr (2, [.ref qr, .ref qp, .int (nI md), .int (r0), .int (r1), .int (r2), .int (r3)])), (qr, .inl (cR, 3, .inr (.inr (.inr (.inr (fun i => some (ro i)))))))]) ⟨hx, hb, hml, hown, hts⟩ (c_rowOf_i l D cI cP cR h qr qp md r0 r1 r2 r3 ro i (by omega)) (cwV 1 hts gX2_all_X2_rowOf rfl rfl rfl (by decide +kernel) ⟨Nat.le_of_ble_eq_true rfl, Nat.le_of_ble_eq_true rfl⟩) hK hP hD [0, 1] rfl (by decide) 0 rfl rfl rfl rfl hl.1 rfl (Nat.le_of_ble_eq_true rfl) dX2_all_2 ⟨Nat.zero_le _, Nat.zero_le _⟩ ?_
  refine lv_astore (lv' := [(4, .ref (ro i)), (0, .ref h), (1, .int (nI i)), (2, .int (nI q)), (3, .int (nI j))]) hx hb dX2_all_5 hl (by decide) rfl (fun ls hl => ?_)
  refine lv_aload_n hx hb dX2_all_7 rfl (lv_at hl 1 rfl) ?_
  refine lv_iload_n hx hb dX2_all_8 rfl (lv_at hl 4 rfl) ?_
  -- c_rowOf_i
  refine pw_cVp (As := [.int (nI j)]) (rest := []) (wc := [(h, .inr (2, [.ref qr, .ref qp, .int (nI md), .int (r0), .int (r1), .int (r2), .int (r3)])), (qr, .inl (cR, 3, .inr (.inr (.inr (.inr (fun i => some (ro i)))))))]) ⟨hx, hb, hml, hown, hts⟩ (c_rowOf_i l D cI cP cR h qr qp md r0 r1 r2 r3 ro j (by omega)) (cwV 1 hts gX2_all_X2_rowOf rfl rfl rfl (by decide +kernel) ⟨Nat.le_of_ble_eq_true rfl, Nat.le_of_ble_eq_true rfl⟩) hK hP hD [0, 1] rfl (by decide) 0 rfl rfl rfl rfl hl.1 rfl (Nat.le_of_ble_eq_true rfl) dX2_all_9 ⟨Nat.zero_le _, Nat.zero_le _⟩ ?_
  refine lv_astore (lv' := [(5, .ref (ro j)), (4, .ref (ro i)), (0, .ref h), (1, .int (nI i)), (2, .int (nI q)), (3, .int (nI j))]) hx hb dX2_all_12 hl (by decide) rfl (fun ls hl => ?_)
  refine lv_aload hx hb dX2_all_14 (lv_at hl 1 rfl) ?_
  refine lv_ifnull hx hb dX2_all_16 ?_
  refine lv_aload hx hb dX2_all_19 (lv_at hl 0 rfl) ?_
  refine lv_ifnull hx hb dX2_all_21 ?_
  refine lv_aload hx hb dX2_all_24 (lv_at hl 1 rfl) ?_
  refine lv_aload hx hb dX2_all_26 (lv_at hl 0 rfl) ?_
  refine lv_acmp_ne (rx := (some (ro i))) (ry := (some (ro j))) (tgt := 33) hx hb dX2_all_28 (by decide) (fun c_1 => ?_) (fun c_1 => ?_)
  · have _h := c_1
    refine lv_aload hx hb dX2_all_33 (lv_at hl 0 rfl) ?_
    refine va_getN (D := D) (ci := 1) (v := .int (nI n2)) (C := RX1) (T := TX1) (N := 3) hx hb hts hi_X2_all_1 hown hK.1 hP 4 rfl rfl 1 (by decide) (va_Nw.use rfl hNW.1) (fun _ h9 => h9) rfl dX2_all_35 ?_
    refine pw_if_ne (tgt := 47) hx hb (by omega) dX2_all_38 (by decide) (fun c_2 => ?_) (fun c_2 => ?_)
    · have _h := c_2
      refine lv_aload hx hb dX2_all_47 (lv_at hl 1 rfl) ?_
      refine lv_aload hx hb dX2_all_49 (lv_at hl 0 rfl) ?_
      refine va_getN (D := D) (ci := 1) (v := .int (nI n2)) (C := RX1) (T := TX1) (N := 3) hx hb hts hi_X2_all_1 hown hK.1 hP 4 rfl rfl 1 (by decide) (va_Nw.use rfl hNW.1) (fun _ h9 => h9) rfl dX2_all_51 ?_
      -- c_hasRoomFor_t
      refine pw_cVp (As := [.int (nI n2)]) (rest := []) (wc := [(ro i, .inr (1, [.ref a, .int (nI n), .int (ch)])), (a, .inl (cI, 60, .inl (f)))]) ⟨hx, hb, hml, hown, hts⟩ (c_hasRoomFor_t l D cI cP cR (ro i) a n ch f n2 (by omega)) (cwV 1 hts gX2_all_X1_hasRoomFor rfl rfl rfl (by decide +kernel) ⟨Nat.le_of_ble_eq_true rfl, Nat.le_of_ble_eq_true rfl⟩) hK hP hD [2, 3] rfl (by decide) 0 rfl rfl rfl rfl hl.1 rfl (Nat.le_of_ble_eq_true rfl) dX2_all_54 ⟨Nat.zero_le _, Nat.zero_le _⟩ ?_
      refine lv_if_ne (tgt := 63) hx hb dX2_all_57 (by decide) (fun c => ?_) (fun c => absurd c (by decide))
      refine lv_iload_n hx hb dX2_all_63 rfl (lv_at hl 4 rfl) ?_
      refine lv_iconst (v := -1) hx hb dX2_all_64 (by decide) ?_
      refine lv_icmp_ne (tgt := 76) hx hb dX2_all_65 (by decide) (fun c_3 => ?_) (fun c_3 => ?_)
      · have _h := c_3
        refine lv_iload_n hx hb dX2_all_76 rfl (lv_at hl 4 rfl) ?_
        refine lv_istore (lv' := [(6, .int (nI q)), (5, .ref (ro j)), (4, .ref (ro i)), (0, .ref h), (1, .int (nI i)), (2, .int (nI q)), (3, .int (nI j))]) hx hb dX2_all_77 hl (by decide) rfl (fun ls hl => ?_)
        refine lv_aload hx hb dX2_all_79 (lv_at hl 2 rfl) ?_
        refine lv_iload hx hb dX2_all_81 (lv_at hl 0 rfl) ?_
        -- c_canPutAt_t
        refine pw_cVp (As := [.int (nI q)]) (rest := []) (wc := [(ro i, .inr (1, [.ref a, .int (nI n), .int (ch)])), (a, .inl (cI, 60, .inl (f)))]) ⟨hx, hb, hml, hown, hts⟩ (c_canPutAt_t l D cI cP cR (ro i) a n ch f q (by omega) (by omega)) (cwV 1 hts gX2_all_X1_canPutAt rfl rfl rfl (by decide +kernel) ⟨Nat.le_of_ble_eq_true rfl, Nat.le_of_ble_eq_true rfl⟩) hK hP hD [2, 3] rfl (by decide) 0 rfl rfl rfl rfl hl.1 rfl (Nat.le_of_ble_eq_true rfl) dX2_all_83 ⟨Nat.zero_le _, Nat.zero_le _⟩ ?_
        refine lv_if_ne (tgt := 96) hx hb dX2_all_86 (by decide) (fun c => ?_) (fun c => absurd c (by decide))
        refine lv_aload hx hb dX2_all_96 (lv_at hl 2 rfl) ?_
        refine lv_iload hx hb dX2_all_98 (lv_at hl 0 rfl) ?_
        refine lv_aload hx hb dX2_all_100 (lv_at hl 1 rfl) ?_
        -- c_putAllAt
        refine pw_cVm (As := [.int (nI q), .ref (ro j)]) (rest := []) (wc := [(ro i, .inr (1, [.ref a, .int (nI n), .int (ch)])), (a, .inl (cI, 60, .inl (f))), (ro j, .inr (1, [.ref a2, .int (nI n2), .int (ch2)])), (a2, .inl (cI, 60, .inl (g)))]) (wr := [(h, .inr (2, [.ref qr, .ref qp, .int (nI md), .int (r0), .int (r1), .int (r2), .int (r3)])), (qr, .inl (cR, 3, .inr (.inr (.inr (.inr (fun i => some (ro i)))))))]) ⟨hx, hb, hml, hown, hts⟩ (c_putAllAt l D cI cP cR (ro i) a n ch f (ro j) a2 n2 ch2 g q (by omega) (by omega) (by omega)) (cwV 2 hts gX2_all_X1_putAllAt rfl rfl rfl (by decide +kernel) ⟨Nat.le_of_ble_eq_true rfl, Nat.le_of_ble_eq_true rfl⟩) hK hP hD hS hA [2, 3, 4, 5] [0, 1] rfl rfl (by decide) (by decide) (by decide) 0 rfl rfl rfl rfl hl.1 rfl (Nat.le_of_ble_eq_true rfl) dX2_all_102 ⟨Nat.zero_le _, Nat.zero_le _⟩ (fun v1 w1 H locs hq hP hD hS => ?_)
        rcases hq with ⟨rfl, rfl⟩
        have hP : va_P D vwCl ([(h, .inr (2, [.ref qr, .ref qp, .int (nI md), .int (r0), .int (r1), .int (r2), .int (r3)])), (qr, .inl (cR, 3, .inr (.inr (.inr (.inr (fun i => some (ro i))))))), (ro i, .inr (1, [.ref a, .int (nI (n + n2)), .int (ch + nI 1)])), (a, .inl (cI, 60, .inl (putF (opn f q n2 n) q g n2))), (ro j, .inr (1, [.ref a2, .int (nI n2), .int (ch2)])), (a2, .inl (cI, 60, .inl (g)))]) H := hP
        have hD : va_D A ([(h, .inr (2, [.ref qr, .ref qp, .int (nI md), .int (r0), .int (r1), .int (r2), .int (r3)])), (qr, .inl (cR, 3, .inr (.inr (.inr (.inr (fun i => some (ro i))))))), (ro i, .inr (1, [.ref a, .int (nI (n + n2)), .int (ch + nI 1)])), (a, .inl (cI, 60, .inl (putF (opn f q n2 n) q g n2))), (ro j, .inr (1, [.ref a2, .int (nI n2), .int (ch2)])), (a2, .inl (cI, 60, .inl (g)))]) := hD
        refine W.eq (g2 := F0 m 105 ls []) rfl ?_
        refine lv_aload hx hb dX2_all_105 (lv_at hl 2 rfl) ?_
        refine va_getN (D := D) (ci := 1) (v := .int (nI (n + n2))) (C := RX1) (T := TX1) (N := 3) hx hb hts hi_X2_all_1 hown hK.1 hP 2 rfl rfl 1 (by decide) (va_Nw.use rfl hNW.1) (fun _ h9 => h9) rfl dX2_all_107 ?_
        have hP := hP.sub (ws' := [(h, .inr (2, [.ref qr, .ref qp, .int (nI md), .int (r0), .int (r1), .int (r2), .int (r3)])), (qr, .inl (cR, 3, .inr (.inr (.inr (.inr (fun i => some (ro i))))))), (ro i, .inr (1, [.ref a, .int (nI (n + n2)), .int (ch + nI 1)])), (a, .inl (cI, 60, .inl (putF (opn f q n2 n) q g n2))), (ro j, .inr (1, [.ref a2, .int (nI n2), .int (ch2)])), (a2, .inl (cI, 60, .inl (g)))]) [0, 1, 2, 3, 4, 5] rfl
        have hD := hD.sub (ws' := [(h, .inr (2, [.ref qr, .ref qp, .int (nI md), .int (r0), .int (r1), .int (r2), .int (r3)])), (qr, .inl (cR, 3, .inr (.inr (.inr (.inr (fun i => some (ro i))))))), (ro i, .inr (1, [.ref a, .int (nI (n + n2)), .int (ch + nI 1)])), (a, .inl (cI, 60, .inl (putF (opn f q n2 n) q g n2))), (ro j, .inr (1, [.ref a2, .int (nI n2), .int (ch2)])), (a2, .inl (cI, 60, .inl (g)))]) [0, 1, 2, 3, 4, 5] (by decide) rfl
        exact pw_iret hx hb hr (rfl) hlocks dX2_all_110 hS hP hD (⟨rfl, rfl⟩)
      · exact absurd c_3 (pw_nm1 (by omega))
    · exact absurd c_2 hz
  · exact absurd (Option.some.inj c_1) hro
theorem hi_X2_weave_1 : ∀ w ∈ u_ws RX1 TX1 3, w ∈ wsX2_weave := by decide +kernel
set_option maxHeartbeats 4000000 in
set_option maxRecDepth 100000 in
theorem k_weave_f (l : Launch) (D : va_G) (cI cP cR : ClassId) (h qr qp md : Nat) (r0 r1 r2 r3 : Int32) (ro : Nat → Nat) (i j a n : Nat) (ch : Int32) (f : Nat → Int32) (a2 n2 : Nat) (ch2 : Int32) (g : Nat → Int32) (hi : i < 3) (hj : j < 3) (hne : ¬ i = j) (hro : ¬ ro i = ro j) (hn : n ≤ 60) (hn2 : n2 ≤ 60) (hf : ¬ n + n2 ≤ 60) : pw_Mp l yX2_weave wsX2_weave ({ frames := 2, cells := 0, slots := 0, locals := 46 } : Room) D cI cP cR [.ref h, .int (nI i), .int (nI j)] ([(h, .inr (2, [.ref qr, .ref qp, .int (nI md), .int (r0), .int (r1), .int (r2), .int (r3)])), (qr, .inl (cR, 3, .inr (.inr (.inr (.inr (fun i => some (ro i))))))), (ro i, .inr (1, [.ref a, .int (nI n), .int (ch)])), (a, .inl (cI, 60, .inl (f))), (ro j, .inr (1, [.ref a2, .int (nI n2), .int (ch2)])), (a2, .inl (cI, 60, .inl (g)))]) (.int (-3)) := by
  refine pw_ofp (cc := cX2_weave) (maxL := 5) (ret := (some .int)) (own := RX2) (by decide +kernel) rfl rfl (Nat.le_of_ble_eq_true rfl) ?_
  intro p_ e_ s m bel meth cd hE hK hP hD ls hl
  obtain ⟨hx, hb, hr, hml, hown, hts, hlocks⟩ := hE
  have hNW := hK.2
  have hl : lv_has ls 5 [(0, .ref h), (1, .int (nI i)), (2, .int (nI j))] := hl
  refine lv_aload_n hx hb dX2_weave_0 rfl (lv_at hl 0 rfl) ?_
  refine lv_iload_n hx hb dX2_weave_1 rfl (lv_at hl 1 rfl) ?_
  -- c_rowOf_i
  refine pw_cVp (As := [.int (nI i)]) (rest := []) (wc := [(h, .inr (2, [.ref qr, .ref qp, .int (nI md), .int (r0), .int (r1), .int (r2), .int (r3)])), (qr, .inl (cR, 3, .inr (.inr (.inr (.inr (fun i => some (ro i)))))))]) ⟨hx, hb, hml, hown, hts⟩ (c_rowOf_i l D cI cP cR h qr qp md r0 r1 r2 r3 ro i (by omega)) (cwV 1 hts gX2_weave_X2_rowOf rfl rfl rfl (by decide +kernel) ⟨Nat.le_of_ble_eq_true rfl, Nat.le_of_ble_eq_true rfl⟩) hK hP hD [0, 1] rfl (by decide) 0 rfl rfl rfl rfl hl.1 rfl (Nat.le_of_ble_eq_true rfl) dX2_weave_2 ⟨Nat.zero_le _, Nat.zero_le _⟩ ?_
  refine lv_astore_n (lv' := [(3, .ref (ro i)), (0, .ref h), (1, .int (nI i)), (2, .int (nI j))]) hx hb dX2_weave_5 rfl hl (by decide) rfl (fun ls hl => ?_)
  refine lv_aload_n hx hb dX2_weave_6 rfl (lv_at hl 1 rfl) ?_
  refine lv_iload_n hx hb dX2_weave_7 rfl (lv_at hl 3 rfl) ?_
  -- c_rowOf_i
  refine pw_cVp (As := [.int (nI j)]) (rest := []) (wc := [(h, .inr (2, [.ref qr, .ref qp, .int (nI md), .int (r0), .int (r1), .int (r2), .int (r3)])), (qr, .inl (cR, 3, .inr (.inr (.inr (.inr (fun i => some (ro i)))))))]) ⟨hx, hb, hml, hown, hts⟩ (c_rowOf_i l D cI cP cR h qr qp md r0 r1 r2 r3 ro j (by omega)) (cwV 1 hts gX2_weave_X2_rowOf rfl rfl rfl (by decide +kernel) ⟨Nat.le_of_ble_eq_true rfl, Nat.le_of_ble_eq_true rfl⟩) hK hP hD [0, 1] rfl (by decide) 0 rfl rfl rfl rfl hl.1 rfl (Nat.le_of_ble_eq_true rfl) dX2_weave_8 ⟨Nat.zero_le _, Nat.zero_le _⟩ ?_
  refine lv_astore (lv' := [(4, .ref (ro j)), (3, .ref (ro i)), (0, .ref h), (1, .int (nI i)), (2, .int (nI j))]) hx hb dX2_weave_11 hl (by decide) rfl (fun ls hl => ?_)
  refine lv_aload_n hx hb dX2_weave_13 rfl (lv_at hl 1 rfl) ?_
  refine lv_ifnull hx hb dX2_weave_14 ?_
  refine lv_aload hx hb dX2_weave_17 (lv_at hl 0 rfl) ?_
  refine lv_ifnull hx hb dX2_weave_19 ?_
  refine lv_aload_n hx hb dX2_weave_22 rfl (lv_at hl 1 rfl) ?_
  refine lv_aload hx hb dX2_weave_23 (lv_at hl 0 rfl) ?_
  refine lv_acmp_ne (rx := (some (ro i))) (ry := (some (ro j))) (tgt := 30) hx hb dX2_weave_25 (by decide) (fun c_1 => ?_) (fun c_1 => ?_)
  · have _h := c_1
    refine lv_aload_n hx hb dX2_weave_30 rfl (lv_at hl 1 rfl) ?_
    refine lv_aload hx hb dX2_weave_31 (lv_at hl 0 rfl) ?_
    refine va_getN (D := D) (ci := 1) (v := .int (nI n2)) (C := RX1) (T := TX1) (N := 3) hx hb hts hi_X2_weave_1 hown hK.1 hP 4 rfl rfl 1 (by decide) (va_Nw.use rfl hNW.1) (fun _ h9 => h9) rfl dX2_weave_33 ?_
    -- c_hasRoomFor_f
    refine pw_cVp (As := [.int (nI n2)]) (rest := []) (wc := [(ro i, .inr (1, [.ref a, .int (nI n), .int (ch)])), (a, .inl (cI, 60, .inl (f)))]) ⟨hx, hb, hml, hown, hts⟩ (c_hasRoomFor_f l D cI cP cR (ro i) a n ch f n2 (by omega) (by omega) (by omega)) (cwV 1 hts gX2_weave_X1_hasRoomFor rfl rfl rfl (by decide +kernel) ⟨Nat.le_of_ble_eq_true rfl, Nat.le_of_ble_eq_true rfl⟩) hK hP hD [2, 3] rfl (by decide) 0 rfl rfl rfl rfl hl.1 rfl (Nat.le_of_ble_eq_true rfl) dX2_weave_36 ⟨Nat.zero_le _, Nat.zero_le _⟩ ?_
    refine lv_if_ne (tgt := 45) hx hb dX2_weave_39 (by decide) (fun c => absurd c (by decide)) (fun c => ?_)
    refine lv_bipush (v := -3) hx hb dX2_weave_42 (by decide) ?_
    exact pw_piret hx hb hr (rfl) hlocks dX2_weave_44 (rfl)
  · exact absurd (Option.some.inj c_1) hro
set_option maxHeartbeats 4000000 in
set_option maxRecDepth 100000 in
theorem k_weave_0 (l : Launch) (D : va_G) (cI cP cR : ClassId) (h qr qp md : Nat) (r0 r1 r2 r3 : Int32) (ro : Nat → Nat) (i j a n : Nat) (ch : Int32) (f : Nat → Int32) (a2 n2 : Nat) (ch2 : Int32) (g : Nat → Int32) (hi : i < 3) (hj : j < 3) (hne : ¬ i = j) (hro : ¬ ro i = ro j) (hn : n ≤ 60) (hn2 : n2 ≤ 60) (hz : n2 = 0) : pw_Mp l yX2_weave wsX2_weave ({ frames := 2, cells := 0, slots := 0, locals := 46 } : Room) D cI cP cR [.ref h, .int (nI i), .int (nI j)] ([(h, .inr (2, [.ref qr, .ref qp, .int (nI md), .int (r0), .int (r1), .int (r2), .int (r3)])), (qr, .inl (cR, 3, .inr (.inr (.inr (.inr (fun i => some (ro i))))))), (ro i, .inr (1, [.ref a, .int (nI n), .int (ch)])), (a, .inl (cI, 60, .inl (f))), (ro j, .inr (1, [.ref a2, .int (nI n2), .int (ch2)])), (a2, .inl (cI, 60, .inl (g)))]) (.int (nI n)) := by
  refine pw_ofp (cc := cX2_weave) (maxL := 5) (ret := (some .int)) (own := RX2) (by decide +kernel) rfl rfl (Nat.le_of_ble_eq_true rfl) ?_
  intro p_ e_ s m bel meth cd hE hK hP hD ls hl
  obtain ⟨hx, hb, hr, hml, hown, hts, hlocks⟩ := hE
  have hNW := hK.2
  have hl : lv_has ls 5 [(0, .ref h), (1, .int (nI i)), (2, .int (nI j))] := hl
  refine lv_aload_n hx hb dX2_weave_0 rfl (lv_at hl 0 rfl) ?_
  refine lv_iload_n hx hb dX2_weave_1 rfl (lv_at hl 1 rfl) ?_
  -- c_rowOf_i
  refine pw_cVp (As := [.int (nI i)]) (rest := []) (wc := [(h, .inr (2, [.ref qr, .ref qp, .int (nI md), .int (r0), .int (r1), .int (r2), .int (r3)])), (qr, .inl (cR, 3, .inr (.inr (.inr (.inr (fun i => some (ro i)))))))]) ⟨hx, hb, hml, hown, hts⟩ (c_rowOf_i l D cI cP cR h qr qp md r0 r1 r2 r3 ro i (by omega)) (cwV 1 hts gX2_weave_X2_rowOf rfl rfl rfl (by decide +kernel) ⟨Nat.le_of_ble_eq_true rfl, Nat.le_of_ble_eq_true rfl⟩) hK hP hD [0, 1] rfl (by decide) 0 rfl rfl rfl rfl hl.1 rfl (Nat.le_of_ble_eq_true rfl) dX2_weave_2 ⟨Nat.zero_le _, Nat.zero_le _⟩ ?_
  refine lv_astore_n (lv' := [(3, .ref (ro i)), (0, .ref h), (1, .int (nI i)), (2, .int (nI j))]) hx hb dX2_weave_5 rfl hl (by decide) rfl (fun ls hl => ?_)
  refine lv_aload_n hx hb dX2_weave_6 rfl (lv_at hl 1 rfl) ?_
  refine lv_iload_n hx hb dX2_weave_7 rfl (lv_at hl 3 rfl) ?_
  -- c_rowOf_i
  refine pw_cVp (As := [.int (nI j)]) (rest := []) (wc := [(h, .inr (2, [.ref qr, .ref qp, .int (nI md), .int (r0), .int (r1), .int (r2), .int (r3)])), (qr, .inl (cR, 3, .inr (.inr (.inr (.inr (fun i => some (ro i)))))))]) ⟨hx, hb, hml, hown, hts⟩ (c_rowOf_i l D cI cP cR h qr qp md r0 r1 r2 r3 ro j (by omega)) (cwV 1 hts gX2_weave_X2_rowOf rfl rfl rfl (by decide +kernel) ⟨Nat.le_of_ble_eq_true rfl, Nat.le_of_ble_eq_true rfl⟩) hK hP hD [0, 1] rfl (by decide) 0 rfl rfl rfl rfl hl.1 rfl (Nat.le_of_ble_eq_true rfl) dX2_weave_8 ⟨Nat.zero_le _, Nat.zero_le _⟩ ?_
  refine lv_astore (lv' := [(4, .ref (ro j)), (3, .ref (ro i)), (0, .ref h), (1, .int (nI i)), (2, .int (nI j))]) hx hb dX2_weave_11 hl (by decide) rfl (fun ls hl => ?_)
  refine lv_aload_n hx hb dX2_weave_13 rfl (lv_at hl 1 rfl) ?_
  refine lv_ifnull hx hb dX2_weave_14 ?_
  refine lv_aload hx hb dX2_weave_17 (lv_at hl 0 rfl) ?_
  refine lv_ifnull hx hb dX2_weave_19 ?_
  refine lv_aload_n hx hb dX2_weave_22 rfl (lv_at hl 1 rfl) ?_
  refine lv_aload hx hb dX2_weave_23 (lv_at hl 0 rfl) ?_
  refine lv_acmp_ne (rx := (some (ro i))) (ry := (some (ro j))) (tgt := 30) hx hb dX2_weave_25 (by decide) (fun c_1 => ?_) (fun c_1 => ?_)
  · have _h := c_1
    refine lv_aload_n hx hb dX2_weave_30 rfl (lv_at hl 1 rfl) ?_
    refine lv_aload hx hb dX2_weave_31 (lv_at hl 0 rfl) ?_
    refine va_getN (D := D) (ci := 1) (v := .int (nI n2)) (C := RX1) (T := TX1) (N := 3) hx hb hts hi_X2_weave_1 hown hK.1 hP 4 rfl rfl 1 (by decide) (va_Nw.use rfl hNW.1) (fun _ h9 => h9) rfl dX2_weave_33 ?_
    -- c_hasRoomFor_t
    refine pw_cVp (As := [.int (nI n2)]) (rest := []) (wc := [(ro i, .inr (1, [.ref a, .int (nI n), .int (ch)])), (a, .inl (cI, 60, .inl (f)))]) ⟨hx, hb, hml, hown, hts⟩ (c_hasRoomFor_t l D cI cP cR (ro i) a n ch f n2 (by omega)) (cwV 1 hts gX2_weave_X1_hasRoomFor rfl rfl rfl (by decide +kernel) ⟨Nat.le_of_ble_eq_true rfl, Nat.le_of_ble_eq_true rfl⟩) hK hP hD [2, 3] rfl (by decide) 0 rfl rfl rfl rfl hl.1 rfl (Nat.le_of_ble_eq_true rfl) dX2_weave_36 ⟨Nat.zero_le _, Nat.zero_le _⟩ ?_
    refine lv_if_ne (tgt := 45) hx hb dX2_weave_39 (by decide) (fun c => ?_) (fun c => absurd c (by decide))
    refine lv_aload hx hb dX2_weave_45 (lv_at hl 0 rfl) ?_
    refine va_getN (D := D) (ci := 1) (v := .int (nI n2)) (C := RX1) (T := TX1) (N := 3) hx hb hts hi_X2_weave_1 hown hK.1 hP 4 rfl rfl 1 (by decide) (va_Nw.use rfl hNW.1) (fun _ h9 => h9) rfl dX2_weave_47 ?_
    refine pw_if_le (tgt := 59) hx hb (by omega) dX2_weave_50 (by decide) (fun c_2 => ?_) (fun c_2 => ?_)
    · have _h := c_2
      refine lv_aload_n hx hb dX2_weave_59 rfl (lv_at hl 1 rfl) ?_
      refine va_getN (D := D) (ci := 1) (v := .int (nI n)) (C := RX1) (T := TX1) (N := 3) hx hb hts hi_X2_weave_1 hown hK.1 hP 2 rfl rfl 1 (by decide) (va_Nw.use rfl hNW.1) (fun _ h9 => h9) rfl dX2_weave_60 ?_
      exact pw_piret hx hb hr (rfl) hlocks dX2_weave_63 (rfl)
    · exact absurd c_2 (by omega)
  · exact absurd (Option.some.inj c_1) hro
set_option maxHeartbeats 4000000 in
set_option maxRecDepth 100000 in
theorem k_weave (l : Launch) (D : va_G) (cI cP cR : ClassId) (h qr qp md : Nat) (r0 r1 r2 r3 : Int32) (ro : Nat → Nat) (i j a n : Nat) (ch : Int32) (f : Nat → Int32) (a2 n2 : Nat) (ch2 : Int32) (g : Nat → Int32) (hi : i < 3) (hj : j < 3) (hne : ¬ i = j) (hro : ¬ ro i = ro j) (hn : n ≤ 60) (hn2 : n2 ≤ 60) (hz : ¬ n2 = 0) (hf : n + n2 ≤ 60) : pw_Mm l yX2_weave wsX2_weave ({ frames := 2, cells := 0, slots := 0, locals := 46 } : Room) D cI cP cR [.ref h, .int (nI i), .int (nI j)] ([(h, .inr (2, [.ref qr, .ref qp, .int (nI md), .int (r0), .int (r1), .int (r2), .int (r3)])), (qr, .inl (cR, 3, .inr (.inr (.inr (.inr (fun i => some (ro i))))))), (ro i, .inr (1, [.ref a, .int (nI n), .int (ch)])), (a, .inl (cI, 60, .inl (f))), (ro j, .inr (1, [.ref a2, .int (nI n2), .int (ch2)])), (a2, .inl (cI, 60, .inl (g)))]) (fun v w => v = some (.int (nI (n + n2))) ∧ w = [(h, .inr (2, [.ref qr, .ref qp, .int (nI md), .int (r0), .int (r1), .int (r2), .int (r3)])), (qr, .inl (cR, 3, .inr (.inr (.inr (.inr (fun i => some (ro i))))))), (ro i, .inr (1, [.ref a, .int (nI (n + n2)), .int (ch + nI 1)])), (a, .inl (cI, 60, .inl (wvF f g n n2))), (ro j, .inr (1, [.ref a2, .int (nI n2), .int (ch2)])), (a2, .inl (cI, 60, .inl (g)))]) := by
  refine pw_ofm (cc := cX2_weave) (maxL := 5) (ret := (some .int)) (own := RX2) (by decide +kernel) rfl rfl (Nat.le_of_ble_eq_true rfl) ?_
  intro p_ e_ s m bel meth cd A hE hK hP hD hA hS ls hl
  obtain ⟨hx, hb, hr, hml, hown, hts, hlocks⟩ := hE
  have hNW := hK.2
  have hl : lv_has ls 5 [(0, .ref h), (1, .int (nI i)), (2, .int (nI j))] := hl
  refine lv_aload_n hx hb dX2_weave_0 rfl (lv_at hl 0 rfl) ?_
  refine lv_iload_n hx hb dX2_weave_1 rfl (lv_at hl 1 rfl) ?_
  -- c_rowOf_i
  refine pw_cVp (As := [.int (nI i)]) (rest := []) (wc := [(h, .inr (2, [.ref qr, .ref qp, .int (nI md), .int (r0), .int (r1), .int (r2), .int (r3)])), (qr, .inl (cR, 3, .inr (.inr (.inr (.inr (fun i => some (ro i)))))))]) ⟨hx, hb, hml, hown, hts⟩ (c_rowOf_i l D cI cP cR h qr qp md r0 r1 r2 r3 ro i (by omega)) (cwV 1 hts gX2_weave_X2_rowOf rfl rfl rfl (by decide +kernel) ⟨Nat.le_of_ble_eq_true rfl, Nat.le_of_ble_eq_true rfl⟩) hK hP hD [0, 1] rfl (by decide) 0 rfl rfl rfl rfl hl.1 rfl (Nat.le_of_ble_eq_true rfl) dX2_weave_2 ⟨Nat.zero_le _, Nat.zero_le _⟩ ?_
  refine lv_astore_n (lv' := [(3, .ref (ro i)), (0, .ref h), (1, .int (nI i)), (2, .int (nI j))]) hx hb dX2_weave_5 rfl hl (by decide) rfl (fun ls hl => ?_)
  refine lv_aload_n hx hb dX2_weave_6 rfl (lv_at hl 1 rfl) ?_
  refine lv_iload_n hx hb dX2_weave_7 rfl (lv_at hl 3 rfl) ?_
  -- c_rowOf_i
  refine pw_cVp (As := [.int (nI j)]) (rest := []) (wc := [(h, .inr (2, [.ref qr, .ref qp, .int (nI md), .int (r0), .int (r1), .int (r2), .int (r3)])), (qr, .inl (cR, 3, .inr (.inr (.inr (.inr (fun i => some (ro i)))))))]) ⟨hx, hb, hml, hown, hts⟩ (c_rowOf_i l D cI cP cR h qr qp md r0 r1 r2 r3 ro j (by omega)) (cwV 1 hts gX2_weave_X2_rowOf rfl rfl rfl (by decide +kernel) ⟨Nat.le_of_ble_eq_true rfl, Nat.le_of_ble_eq_true rfl⟩) hK hP hD [0, 1] rfl (by decide) 0 rfl rfl rfl rfl hl.1 rfl (Nat.le_of_ble_eq_true rfl) dX2_weave_8 ⟨Nat.zero_le _, Nat.zero_le _⟩ ?_
  refine lv_astore (lv' := [(4, .ref (ro j)), (3, .ref (ro i)), (0, .ref h), (1, .int (nI i)), (2, .int (nI j))]) hx hb dX2_weave_11 hl (by decide) rfl (fun ls hl => ?_)
  refine lv_aload_n hx hb dX2_weave_13 rfl (lv_at hl 1 rfl) ?_
  refine lv_ifnull hx hb dX2_weave_14 ?_
  refine lv_aload hx hb dX2_weave_17 (lv_at hl 0 rfl) ?_
  refine lv_ifnull hx hb dX2_weave_19 ?_
  refine lv_aload_n hx hb dX2_weave_22 rfl (lv_at hl 1 rfl) ?_
  refine lv_aload hx hb dX2_weave_23 (lv_at hl 0 rfl) ?_
  refine lv_acmp_ne (rx := (some (ro i))) (ry := (some (ro j))) (tgt := 30) hx hb dX2_weave_25 (by decide) (fun c_1 => ?_) (fun c_1 => ?_)
  · have _h := c_1
    refine lv_aload_n hx hb dX2_weave_30 rfl (lv_at hl 1 rfl) ?_
    refine lv_aload hx hb dX2_weave_31 (lv_at hl 0 rfl) ?_
    refine va_getN (D := D) (ci := 1) (v := .int (nI n2)) (C := RX1) (T := TX1) (N := 3) hx hb hts hi_X2_weave_1 hown hK.1 hP 4 rfl rfl 1 (by decide) (va_Nw.use rfl hNW.1) (fun _ h9 => h9) rfl dX2_weave_33 ?_
    -- c_hasRoomFor_t
    refine pw_cVp (As := [.int (nI n2)]) (rest := []) (wc := [(ro i, .inr (1, [.ref a, .int (nI n), .int (ch)])), (a, .inl (cI, 60, .inl (f)))]) ⟨hx, hb, hml, hown, hts⟩ (c_hasRoomFor_t l D cI cP cR (ro i) a n ch f n2 (by omega)) (cwV 1 hts gX2_weave_X1_hasRoomFor rfl rfl rfl (by decide +kernel) ⟨Nat.le_of_ble_eq_true rfl, Nat.le_of_ble_eq_true rfl⟩) hK hP hD [2, 3] rfl (by decide) 0 rfl rfl rfl rfl hl.1 rfl (Nat.le_of_ble_eq_true rfl) dX2_weave_36 ⟨Nat.zero_le _, Nat.zero_le _⟩ ?_
    refine lv_if_ne (tgt := 45) hx hb dX2_weave_39 (by decide) (fun c => ?_) (fun c => absurd c (by decide))
    refine lv_aload hx hb dX2_weave_45 (lv_at hl 0 rfl) ?_
    refine va_getN (D := D) (ci := 1) (v := .int (nI n2)) (C := RX1) (T := TX1) (N := 3) hx hb hts hi_X2_weave_1 hown hK.1 hP 4 rfl rfl 1 (by decide) (va_Nw.use rfl hNW.1) (fun _ h9 => h9) rfl dX2_weave_47 ?_
    refine pw_if_le (tgt := 59) hx hb (by omega) dX2_weave_50 (by decide) (fun c_2 => ?_) (fun c_2 => ?_)
    · exact absurd c_2 hz
    · have _h := c_2
      refine lv_aload_n hx hb dX2_weave_53 rfl (lv_at hl 1 rfl) ?_
      refine lv_aload hx hb dX2_weave_54 (lv_at hl 0 rfl) ?_
      -- c_weaveIn
      refine pw_cVm (As := [.ref (ro j)]) (rest := []) (wc := [(ro i, .inr (1, [.ref a, .int (nI n), .int (ch)])), (a, .inl (cI, 60, .inl (f))), (ro j, .inr (1, [.ref a2, .int (nI n2), .int (ch2)])), (a2, .inl (cI, 60, .inl (g)))]) (wr := [(h, .inr (2, [.ref qr, .ref qp, .int (nI md), .int (r0), .int (r1), .int (r2), .int (r3)])), (qr, .inl (cR, 3, .inr (.inr (.inr (.inr (fun i => some (ro i)))))))]) ⟨hx, hb, hml, hown, hts⟩ (c_weaveIn l D cI cP cR (ro i) a n ch f (ro j) a2 n2 ch2 g (by omega) (by omega) (by omega)) (cwV 1 hts gX2_weave_X1_weaveIn rfl rfl rfl (by decide +kernel) ⟨Nat.le_of_ble_eq_true rfl, Nat.le_of_ble_eq_true rfl⟩) hK hP hD hS hA [2, 3, 4, 5] [0, 1] rfl rfl (by decide) (by decide) (by decide) 0 rfl rfl rfl rfl hl.1 rfl (Nat.le_of_ble_eq_true rfl) dX2_weave_56 ⟨Nat.zero_le _, Nat.zero_le _⟩ (fun v1 w1 H locs hq hP hD hS => ?_)
      rcases hq with ⟨rfl, rfl⟩
      have hP : va_P D vwCl ([(h, .inr (2, [.ref qr, .ref qp, .int (nI md), .int (r0), .int (r1), .int (r2), .int (r3)])), (qr, .inl (cR, 3, .inr (.inr (.inr (.inr (fun i => some (ro i))))))), (ro i, .inr (1, [.ref a, .int (nI (n + n2)), .int (ch + nI 1)])), (a, .inl (cI, 60, .inl (wvF f g n n2))), (ro j, .inr (1, [.ref a2, .int (nI n2), .int (ch2)])), (a2, .inl (cI, 60, .inl (g)))]) H := hP
      have hD : va_D A ([(h, .inr (2, [.ref qr, .ref qp, .int (nI md), .int (r0), .int (r1), .int (r2), .int (r3)])), (qr, .inl (cR, 3, .inr (.inr (.inr (.inr (fun i => some (ro i))))))), (ro i, .inr (1, [.ref a, .int (nI (n + n2)), .int (ch + nI 1)])), (a, .inl (cI, 60, .inl (wvF f g n n2))), (ro j, .inr (1, [.ref a2, .int (nI n2), .int (ch2)])), (a2, .inl (cI, 60, .inl (g)))]) := hD
      refine W.eq (g2 := F0 m 59 ls []) rfl ?_
      refine lv_aload_n hx hb dX2_weave_59 rfl (lv_at hl 1 rfl) ?_
      refine va_getN (D := D) (ci := 1) (v := .int (nI (n + n2))) (C := RX1) (T := TX1) (N := 3) hx hb hts hi_X2_weave_1 hown hK.1 hP 2 rfl rfl 1 (by decide) (va_Nw.use rfl hNW.1) (fun _ h9 => h9) rfl dX2_weave_60 ?_
      have hP := hP.sub (ws' := [(h, .inr (2, [.ref qr, .ref qp, .int (nI md), .int (r0), .int (r1), .int (r2), .int (r3)])), (qr, .inl (cR, 3, .inr (.inr (.inr (.inr (fun i => some (ro i))))))), (ro i, .inr (1, [.ref a, .int (nI (n + n2)), .int (ch + nI 1)])), (a, .inl (cI, 60, .inl (wvF f g n n2))), (ro j, .inr (1, [.ref a2, .int (nI n2), .int (ch2)])), (a2, .inl (cI, 60, .inl (g)))]) [0, 1, 2, 3, 4, 5] rfl
      have hD := hD.sub (ws' := [(h, .inr (2, [.ref qr, .ref qp, .int (nI md), .int (r0), .int (r1), .int (r2), .int (r3)])), (qr, .inl (cR, 3, .inr (.inr (.inr (.inr (fun i => some (ro i))))))), (ro i, .inr (1, [.ref a, .int (nI (n + n2)), .int (ch + nI 1)])), (a, .inl (cI, 60, .inl (wvF f g n n2))), (ro j, .inr (1, [.ref a2, .int (nI n2), .int (ch2)])), (a2, .inl (cI, 60, .inl (g)))]) [0, 1, 2, 3, 4, 5] (by decide) rfl
      exact pw_iret hx hb hr (rfl) hlocks dX2_weave_63 hS hP hD (⟨rfl, rfl⟩)
  · exact absurd (Option.some.inj c_1) hro
theorem hi_X2_copy_1 : ∀ w ∈ u_ws RX1 TX1 3, w ∈ wsX2_copy := by decide +kernel
theorem hi_X2_copy_2 : ∀ w ∈ u_ws RX2 TX2 7, w ∈ wsX2_copy := by decide +kernel
theorem hf_X2_copy_17 : Cond.fieldLink RX2 17 "Pegrow" "pegs" "[LPegrow$Peg;" ∈ wsX2_copy := by decide +kernel
set_option maxHeartbeats 4000000 in
set_option maxRecDepth 100000 in
theorem k_copy (l : Launch) (D : va_G) (cI cP cR : ClassId) (h qr qp md : Nat) (r0 r1 r2 r3 : Int32) (ro : Nat → Nat) (i j a n : Nat) (ch : Int32) (f : Nat → Int32) (a2 n2 : Nat) (ch2 : Int32) (g : Nat → Int32) (hi : i < 3) (hj : j < 3) (hne : ¬ i = j) (hro : ¬ ro i = ro j) (hn : n ≤ 60) (hn2 : n2 ≤ 60) (po : Nat → Nat) (pr0 : Option Nat) (pa0 ps0 ph0 pt0 pm0 : Int32) (pr1 : Option Nat) (pa1 ps1 ph1 pt1 pm1 : Int32) (pr2 : Option Nat) (pa2 ps2 ph2 pt2 pm2 : Int32) (pr3 : Option Nat) (pa3 ps3 ph3 pt3 pm3 : Int32) : pw_Mm l yX2_copy wsX2_copy ({ frames := 2, cells := 0, slots := 0, locals := 46 } : Room) D cI cP cR [.ref h, .int (nI i), .int (nI j)] ([(h, .inr (2, [.ref qr, .ref qp, .int (nI md), .int (r0), .int (r1), .int (r2), .int (r3)])), (qr, .inl (cR, 3, .inr (.inr (.inr (.inr (fun i => some (ro i))))))), (qp, .inl (cP, 4, .inr (.inr (.inr (.inr (fun i => some (po i))))))), (po 0, .inr (0, [va_rf (pr0), .int (pa0), .int (ps0), .int (ph0), .int (pt0), .int (pm0)])), (po 1, .inr (0, [va_rf (pr1), .int (pa1), .int (ps1), .int (ph1), .int (pt1), .int (pm1)])), (po 2, .inr (0, [va_rf (pr2), .int (pa2), .int (ps2), .int (ph2), .int (pt2), .int (pm2)])), (po 3, .inr (0, [va_rf (pr3), .int (pa3), .int (ps3), .int (ph3), .int (pt3), .int (pm3)])), (ro i, .inr (1, [.ref a, .int (nI n), .int (ch)])), (a, .inl (cI, 60, .inl (f))), (ro j, .inr (1, [.ref a2, .int (nI n2), .int (ch2)])), (a2, .inl (cI, 60, .inl (g)))]) (fun v w => v = some (.int (nI n2)) ∧ w = [(h, .inr (2, [.ref qr, .ref qp, .int (nI md), .int (r0), .int (r1), .int (r2), .int (r3)])), (qr, .inl (cR, 3, .inr (.inr (.inr (.inr (fun i => some (ro i))))))), (qp, .inl (cP, 4, .inr (.inr (.inr (.inr (fun i => some (po i))))))), (po 0, .inr (0, [va_rf (if pr0 = some (ro i) then none else pr0), .int (pa0), .int (ps0), .int (ph0), .int (pt0), .int (pm0)])), (po 1, .inr (0, [va_rf (if pr1 = some (ro i) then none else pr1), .int (pa1), .int (ps1), .int (ph1), .int (pt1), .int (pm1)])), (po 2, .inr (0, [va_rf (if pr2 = some (ro i) then none else pr2), .int (pa2), .int (ps2), .int (ph2), .int (pt2), .int (pm2)])), (po 3, .inr (0, [va_rf (if pr3 = some (ro i) then none else pr3), .int (pa3), .int (ps3), .int (ph3), .int (pt3), .int (pm3)])), (ro i, .inr (1, [.ref a, .int (nI n2), .int (ch)])), (a, .inl (cI, 60, .inl (putF f 0 g n2))), (ro j, .inr (1, [.ref a2, .int (nI n2), .int (ch2)])), (a2, .inl (cI, 60, .inl (g)))]) := by
  refine pw_ofm (cc := cX2_copy) (maxL := 6) (ret := (some .int)) (own := RX2) (by decide +kernel) rfl rfl (Nat.le_of_ble_eq_true rfl) ?_
  intro p_ e_ s m bel meth cd A hE hK hP hD hA hS ls hl
  obtain ⟨hx, hb, hr, hml, hown, hts, hlocks⟩ := hE
  have hNW := hK.2
  have hl : lv_has ls 6 [(0, .ref h), (1, .int (nI i)), (2, .int (nI j))] := hl
  refine lv_aload_n hx hb dX2_copy_0 rfl (lv_at hl 0 rfl) ?_
  refine lv_iload_n hx hb dX2_copy_1 rfl (lv_at hl 1 rfl) ?_
  -- c_rowOf_i
  refine pw_cVp (As := [.int (nI i)]) (rest := []) (wc := [(h, .inr (2, [.ref qr, .ref qp, .int (nI md), .int (r0), .int (r1), .int (r2), .int (r3)])), (qr, .inl (cR, 3, .inr (.inr (.inr (.inr (fun i => some (ro i)))))))]) ⟨hx, hb, hml, hown, hts⟩ (c_rowOf_i l D cI cP cR h qr qp md r0 r1 r2 r3 ro i (by omega)) (cwV 1 hts gX2_copy_X2_rowOf rfl rfl rfl (by decide +kernel) ⟨Nat.le_of_ble_eq_true rfl, Nat.le_of_ble_eq_true rfl⟩) hK hP hD [0, 1] rfl (by decide) 0 rfl rfl rfl rfl hl.1 rfl (Nat.le_of_ble_eq_true rfl) dX2_copy_2 ⟨Nat.zero_le _, Nat.zero_le _⟩ ?_
  refine lv_astore_n (lv' := [(3, .ref (ro i)), (0, .ref h), (1, .int (nI i)), (2, .int (nI j))]) hx hb dX2_copy_5 rfl hl (by decide) rfl (fun ls hl => ?_)
  refine lv_aload_n hx hb dX2_copy_6 rfl (lv_at hl 1 rfl) ?_
  refine lv_iload_n hx hb dX2_copy_7 rfl (lv_at hl 3 rfl) ?_
  -- c_rowOf_i
  refine pw_cVp (As := [.int (nI j)]) (rest := []) (wc := [(h, .inr (2, [.ref qr, .ref qp, .int (nI md), .int (r0), .int (r1), .int (r2), .int (r3)])), (qr, .inl (cR, 3, .inr (.inr (.inr (.inr (fun i => some (ro i)))))))]) ⟨hx, hb, hml, hown, hts⟩ (c_rowOf_i l D cI cP cR h qr qp md r0 r1 r2 r3 ro j (by omega)) (cwV 1 hts gX2_copy_X2_rowOf rfl rfl rfl (by decide +kernel) ⟨Nat.le_of_ble_eq_true rfl, Nat.le_of_ble_eq_true rfl⟩) hK hP hD [0, 1] rfl (by decide) 0 rfl rfl rfl rfl hl.1 rfl (Nat.le_of_ble_eq_true rfl) dX2_copy_8 ⟨Nat.zero_le _, Nat.zero_le _⟩ ?_
  refine lv_astore (lv' := [(4, .ref (ro j)), (3, .ref (ro i)), (0, .ref h), (1, .int (nI i)), (2, .int (nI j))]) hx hb dX2_copy_11 hl (by decide) rfl (fun ls hl => ?_)
  refine lv_aload_n hx hb dX2_copy_13 rfl (lv_at hl 1 rfl) ?_
  refine lv_ifnull hx hb dX2_copy_14 ?_
  refine lv_aload hx hb dX2_copy_17 (lv_at hl 0 rfl) ?_
  refine lv_ifnull hx hb dX2_copy_19 ?_
  refine lv_aload_n hx hb dX2_copy_22 rfl (lv_at hl 1 rfl) ?_
  refine lv_aload hx hb dX2_copy_23 (lv_at hl 0 rfl) ?_
  refine lv_acmp_ne (rx := (some (ro i))) (ry := (some (ro j))) (tgt := 30) hx hb dX2_copy_25 (by decide) (fun c_1 => ?_) (fun c_1 => ?_)
  · have _h := c_1
    refine lv_iconst (v := nI 0) hx hb dX2_copy_30 (by decide) ?_
    refine lv_istore (lv' := [(5, .int (nI 0)), (4, .ref (ro j)), (3, .ref (ro i)), (0, .ref h), (1, .int (nI i)), (2, .int (nI j))]) hx hb dX2_copy_31 hl (by decide) rfl (fun ls hl => ?_)
    refine lv_iload hx hb dX2_copy_33 (lv_at hl 0 rfl) ?_
    refine lv_aload_n hx hb dX2_copy_35 rfl (lv_at hl 3 rfl) ?_
    refine va_get (D := D) (ci := 2) (v := .ref qp) (C := RX2) (T := TX2) (N := 7) hx hb hts hi_X2_copy_2 hown hK.1 hP 0 rfl rfl 1 (by decide) (hts _ hf_X2_copy_17) (fun _ h9 => h9) rfl dX2_copy_36 ?_
    refine va_alen (v := nI 4) hx hb hK.1 hP 2 1 rfl rfl rfl dX2_copy_39 ?_
    refine lv_icmp_ge (tgt := 60) hx hb dX2_copy_40 (by decide) (fun c => absurd c (by decide)) (fun c => ?_)
    refine lv_aload_n hx hb dX2_copy_43 rfl (lv_at hl 3 rfl) ?_
    refine va_get (D := D) (ci := 2) (v := .ref qp) (C := RX2) (T := TX2) (N := 7) hx hb hts hi_X2_copy_2 hown hK.1 hP 0 rfl rfl 1 (by decide) (hts _ hf_X2_copy_17) (fun _ h9 => h9) rfl dX2_copy_44 ?_
    refine lv_iload hx hb dX2_copy_47 (lv_at hl 0 rfl) ?_
    refine pw_aldq hx hb hK.1 hP 2 1 rfl rfl (by decide) (by omega) dX2_copy_49 ?_
    refine lv_aload_n hx hb dX2_copy_50 rfl (lv_at hl 2 rfl) ?_
    -- c_leave
    refine pw_cVm (As := [.ref (ro i)]) (rest := []) (wc := [(po 0, .inr (0, [va_rf (pr0), .int (pa0), .int (ps0), .int (ph0), .int (pt0), .int (pm0)]))]) (wr := [(h, .inr (2, [.ref qr, .ref qp, .int (nI md), .int (r0), .int (r1), .int (r2), .int (r3)])), (qr, .inl (cR, 3, .inr (.inr (.inr (.inr (fun i => some (ro i))))))), (qp, .inl (cP, 4, .inr (.inr (.inr (.inr (fun i => some (po i))))))), (po 1, .inr (0, [va_rf (pr1), .int (pa1), .int (ps1), .int (ph1), .int (pt1), .int (pm1)])), (po 2, .inr (0, [va_rf (pr2), .int (pa2), .int (ps2), .int (ph2), .int (pt2), .int (pm2)])), (po 3, .inr (0, [va_rf (pr3), .int (pa3), .int (ps3), .int (ph3), .int (pt3), .int (pm3)])), (ro i, .inr (1, [.ref a, .int (nI n), .int (ch)])), (a, .inl (cI, 60, .inl (f))), (ro j, .inr (1, [.ref a2, .int (nI n2), .int (ch2)])), (a2, .inl (cI, 60, .inl (g)))]) ⟨hx, hb, hml, hown, hts⟩ (c_leave l D cI cP cR (po 0) pa0 ps0 ph0 pt0 pm0 pr0 (ro i)) (cwV 1 hts gX2_copy_X0_leave rfl rfl rfl (by decide +kernel) ⟨Nat.le_of_ble_eq_true rfl, Nat.le_of_ble_eq_true rfl⟩) hK hP hD hS hA [3] [0, 1, 2, 4, 5, 6, 7, 8, 9, 10] rfl rfl (by decide) (by decide) (by decide) 0 rfl rfl rfl rfl hl.1 rfl (Nat.le_of_ble_eq_true rfl) dX2_copy_51 ⟨Nat.zero_le _, Nat.zero_le _⟩ (fun v1 w1 H locs hq hP hD hS => ?_)
    rcases hq with ⟨rfl, rfl⟩
    have hP : va_P D vwCl ([(h, .inr (2, [.ref qr, .ref qp, .int (nI md), .int (r0), .int (r1), .int (r2), .int (r3)])), (qr, .inl (cR, 3, .inr (.inr (.inr (.inr (fun i => some (ro i))))))), (qp, .inl (cP, 4, .inr (.inr (.inr (.inr (fun i => some (po i))))))), (po 1, .inr (0, [va_rf (pr1), .int (pa1), .int (ps1), .int (ph1), .int (pt1), .int (pm1)])), (po 2, .inr (0, [va_rf (pr2), .int (pa2), .int (ps2), .int (ph2), .int (pt2), .int (pm2)])), (po 3, .inr (0, [va_rf (pr3), .int (pa3), .int (ps3), .int (ph3), .int (pt3), .int (pm3)])), (ro i, .inr (1, [.ref a, .int (nI n), .int (ch)])), (a, .inl (cI, 60, .inl (f))), (ro j, .inr (1, [.ref a2, .int (nI n2), .int (ch2)])), (a2, .inl (cI, 60, .inl (g))), (po 0, .inr (0, [va_rf (if pr0 = some (ro i) then none else pr0), .int (pa0), .int (ps0), .int (ph0), .int (pt0), .int (pm0)]))]) H := hP
    have hD : va_D A ([(h, .inr (2, [.ref qr, .ref qp, .int (nI md), .int (r0), .int (r1), .int (r2), .int (r3)])), (qr, .inl (cR, 3, .inr (.inr (.inr (.inr (fun i => some (ro i))))))), (qp, .inl (cP, 4, .inr (.inr (.inr (.inr (fun i => some (po i))))))), (po 1, .inr (0, [va_rf (pr1), .int (pa1), .int (ps1), .int (ph1), .int (pt1), .int (pm1)])), (po 2, .inr (0, [va_rf (pr2), .int (pa2), .int (ps2), .int (ph2), .int (pt2), .int (pm2)])), (po 3, .inr (0, [va_rf (pr3), .int (pa3), .int (ps3), .int (ph3), .int (pt3), .int (pm3)])), (ro i, .inr (1, [.ref a, .int (nI n), .int (ch)])), (a, .inl (cI, 60, .inl (f))), (ro j, .inr (1, [.ref a2, .int (nI n2), .int (ch2)])), (a2, .inl (cI, 60, .inl (g))), (po 0, .inr (0, [va_rf (if pr0 = some (ro i) then none else pr0), .int (pa0), .int (ps0), .int (ph0), .int (pt0), .int (pm0)]))]) := hD
    refine W.eq (g2 := F0 m 54 ls []) rfl ?_
    refine lv_iinc (v := nI 1) (lv' := [(5, .int (nI 1)), (4, .ref (ro j)), (3, .ref (ro i)), (0, .ref h), (1, .int (nI i)), (2, .int (nI j))]) hx hb dX2_copy_54 hl (k := 0) rfl (pw_inc _ 1) (by decide) rfl (fun ls hl => ?_)
    refine lv_goto (tgt := 33) hx hb dX2_copy_57 (by decide) ?_
    refine lv_iload hx hb dX2_copy_33 (lv_at hl 0 rfl) ?_
    refine lv_aload_n hx hb dX2_copy_35 rfl (lv_at hl 3 rfl) ?_
    refine va_get (D := D) (ci := 2) (v := .ref qp) (C := RX2) (T := TX2) (N := 7) hx hb hts hi_X2_copy_2 hown hK.1 hP 0 rfl rfl 1 (by decide) (hts _ hf_X2_copy_17) (fun _ h9 => h9) rfl dX2_copy_36 ?_
    refine va_alen (v := nI 4) hx hb hK.1 hP 2 1 rfl rfl rfl dX2_copy_39 ?_
    refine lv_icmp_ge (tgt := 60) hx hb dX2_copy_40 (by decide) (fun c => absurd c (by decide)) (fun c => ?_)
    refine lv_aload_n hx hb dX2_copy_43 rfl (lv_at hl 3 rfl) ?_
    refine va_get (D := D) (ci := 2) (v := .ref qp) (C := RX2) (T := TX2) (N := 7) hx hb hts hi_X2_copy_2 hown hK.1 hP 0 rfl rfl 1 (by decide) (hts _ hf_X2_copy_17) (fun _ h9 => h9) rfl dX2_copy_44 ?_
    refine lv_iload hx hb dX2_copy_47 (lv_at hl 0 rfl) ?_
    refine pw_aldq hx hb hK.1 hP 2 1 rfl rfl (by decide) (by omega) dX2_copy_49 ?_
    refine lv_aload_n hx hb dX2_copy_50 rfl (lv_at hl 2 rfl) ?_
    -- c_leave
    refine pw_cVm (As := [.ref (ro i)]) (rest := []) (wc := [(po 1, .inr (0, [va_rf (pr1), .int (pa1), .int (ps1), .int (ph1), .int (pt1), .int (pm1)]))]) (wr := [(h, .inr (2, [.ref qr, .ref qp, .int (nI md), .int (r0), .int (r1), .int (r2), .int (r3)])), (qr, .inl (cR, 3, .inr (.inr (.inr (.inr (fun i => some (ro i))))))), (qp, .inl (cP, 4, .inr (.inr (.inr (.inr (fun i => some (po i))))))), (po 2, .inr (0, [va_rf (pr2), .int (pa2), .int (ps2), .int (ph2), .int (pt2), .int (pm2)])), (po 3, .inr (0, [va_rf (pr3), .int (pa3), .int (ps3), .int (ph3), .int (pt3), .int (pm3)])), (ro i, .inr (1, [.ref a, .int (nI n), .int (ch)])), (a, .inl (cI, 60, .inl (f))), (ro j, .inr (1, [.ref a2, .int (nI n2), .int (ch2)])), (a2, .inl (cI, 60, .inl (g))), (po 0, .inr (0, [va_rf (if pr0 = some (ro i) then none else pr0), .int (pa0), .int (ps0), .int (ph0), .int (pt0), .int (pm0)]))]) ⟨hx, hb, hml, hown, hts⟩ (c_leave l D cI cP cR (po 1) pa1 ps1 ph1 pt1 pm1 pr1 (ro i)) (cwV 1 hts gX2_copy_X0_leave rfl rfl rfl (by decide +kernel) ⟨Nat.le_of_ble_eq_true rfl, Nat.le_of_ble_eq_true rfl⟩) hK hP hD hS hA [3] [0, 1, 2, 4, 5, 6, 7, 8, 9, 10] rfl rfl (by decide) (by decide) (by decide) 0 rfl rfl rfl rfl hl.1 rfl (Nat.le_of_ble_eq_true rfl) dX2_copy_51 ⟨Nat.zero_le _, Nat.zero_le _⟩ (fun v1 w1 H locs hq hP hD hS => ?_)
    rcases hq with ⟨rfl, rfl⟩
    have hP : va_P D vwCl ([(h, .inr (2, [.ref qr, .ref qp, .int (nI md), .int (r0), .int (r1), .int (r2), .int (r3)])), (qr, .inl (cR, 3, .inr (.inr (.inr (.inr (fun i => some (ro i))))))), (qp, .inl (cP, 4, .inr (.inr (.inr (.inr (fun i => some (po i))))))), (po 2, .inr (0, [va_rf (pr2), .int (pa2), .int (ps2), .int (ph2), .int (pt2), .int (pm2)])), (po 3, .inr (0, [va_rf (pr3), .int (pa3), .int (ps3), .int (ph3), .int (pt3), .int (pm3)])), (ro i, .inr (1, [.ref a, .int (nI n), .int (ch)])), (a, .inl (cI, 60, .inl (f))), (ro j, .inr (1, [.ref a2, .int (nI n2), .int (ch2)])), (a2, .inl (cI, 60, .inl (g))), (po 0, .inr (0, [va_rf (if pr0 = some (ro i) then none else pr0), .int (pa0), .int (ps0), .int (ph0), .int (pt0), .int (pm0)])), (po 1, .inr (0, [va_rf (if pr1 = some (ro i) then none else pr1), .int (pa1), .int (ps1), .int (ph1), .int (pt1), .int (pm1)]))]) H := hP
    have hD : va_D A ([(h, .inr (2, [.ref qr, .ref qp, .int (nI md), .int (r0), .int (r1), .int (r2), .int (r3)])), (qr, .inl (cR, 3, .inr (.inr (.inr (.inr (fun i => some (ro i))))))), (qp, .inl (cP, 4, .inr (.inr (.inr (.inr (fun i => some (po i))))))), (po 2, .inr (0, [va_rf (pr2), .int (pa2), .int (ps2), .int (ph2), .int (pt2), .int (pm2)])), (po 3, .inr (0, [va_rf (pr3), .int (pa3), .int (ps3), .int (ph3), .int (pt3), .int (pm3)])), (ro i, .inr (1, [.ref a, .int (nI n), .int (ch)])), (a, .inl (cI, 60, .inl (f))), (ro j, .inr (1, [.ref a2, .int (nI n2), .int (ch2)])), (a2, .inl (cI, 60, .inl (g))), (po 0, .inr (0, [va_rf (if pr0 = some (ro i) then none else pr0), .int (pa0), .int (ps0), .int (ph0), .int (pt0), .int (pm0)])), (po 1, .inr (0, [va_rf (if pr1 = some (ro i) then none else pr1), .int (pa1), .int (ps1), .int (ph1), .int (pt1), .int (pm1)]))]) := hD
    refine W.eq (g2 := F0 m 54 ls []) rfl ?_
    refine lv_iinc (v := nI 2) (lv' := [(5, .int (nI 2)), (4, .ref (ro j)), (3, .ref (ro i)), (0, .ref h), (1, .int (nI i)), (2, .int (nI j))]) hx hb dX2_copy_54 hl (k := 0) rfl (pw_inc _ 1) (by decide) rfl (fun ls hl => ?_)
    refine lv_goto (tgt := 33) hx hb dX2_copy_57 (by decide) ?_
    refine lv_iload hx hb dX2_copy_33 (lv_at hl 0 rfl) ?_
    refine lv_aload_n hx hb dX2_copy_35 rfl (lv_at hl 3 rfl) ?_
    refine va_get (D := D) (ci := 2) (v := .ref qp) (C := RX2) (T := TX2) (N := 7) hx hb hts hi_X2_copy_2 hown hK.1 hP 0 rfl rfl 1 (by decide) (hts _ hf_X2_copy_17) (fun _ h9 => h9) rfl dX2_copy_36 ?_
    refine va_alen (v := nI 4) hx hb hK.1 hP 2 1 rfl rfl rfl dX2_copy_39 ?_
    refine lv_icmp_ge (tgt := 60) hx hb dX2_copy_40 (by decide) (fun c => absurd c (by decide)) (fun c => ?_)
    refine lv_aload_n hx hb dX2_copy_43 rfl (lv_at hl 3 rfl) ?_
    refine va_get (D := D) (ci := 2) (v := .ref qp) (C := RX2) (T := TX2) (N := 7) hx hb hts hi_X2_copy_2 hown hK.1 hP 0 rfl rfl 1 (by decide) (hts _ hf_X2_copy_17) (fun _ h9 => h9) rfl dX2_copy_44 ?_
    refine lv_iload hx hb dX2_copy_47 (lv_at hl 0 rfl) ?_
    refine pw_aldq hx hb hK.1 hP 2 1 rfl rfl (by decide) (by omega) dX2_copy_49 ?_
    refine lv_aload_n hx hb dX2_copy_50 rfl (lv_at hl 2 rfl) ?_
    -- c_leave
    refine pw_cVm (As := [.ref (ro i)]) (rest := []) (wc := [(po 2, .inr (0, [va_rf (pr2), .int (pa2), .int (ps2), .int (ph2), .int (pt2), .int (pm2)]))]) (wr := [(h, .inr (2, [.ref qr, .ref qp, .int (nI md), .int (r0), .int (r1), .int (r2), .int (r3)])), (qr, .inl (cR, 3, .inr (.inr (.inr (.inr (fun i => some (ro i))))))), (qp, .inl (cP, 4, .inr (.inr (.inr (.inr (fun i => some (po i))))))), (po 3, .inr (0, [va_rf (pr3), .int (pa3), .int (ps3), .int (ph3), .int (pt3), .int (pm3)])), (ro i, .inr (1, [.ref a, .int (nI n), .int (ch)])), (a, .inl (cI, 60, .inl (f))), (ro j, .inr (1, [.ref a2, .int (nI n2), .int (ch2)])), (a2, .inl (cI, 60, .inl (g))), (po 0, .inr (0, [va_rf (if pr0 = some (ro i) then none else pr0), .int (pa0), .int (ps0), .int (ph0), .int (pt0), .int (pm0)])), (po 1, .inr (0, [va_rf (if pr1 = some (ro i) then none else pr1), .int (pa1), .int (ps1), .int (ph1), .int (pt1), .int (pm1)]))]) ⟨hx, hb, hml, hown, hts⟩ (c_leave l D cI cP cR (po 2) pa2 ps2 ph2 pt2 pm2 pr2 (ro i)) (cwV 1 hts gX2_copy_X0_leave rfl rfl rfl (by decide +kernel) ⟨Nat.le_of_ble_eq_true rfl, Nat.le_of_ble_eq_true rfl⟩) hK hP hD hS hA [3] [0, 1, 2, 4, 5, 6, 7, 8, 9, 10] rfl rfl (by decide) (by decide) (by decide) 0 rfl rfl rfl rfl hl.1 rfl (Nat.le_of_ble_eq_true rfl) dX2_copy_51 ⟨Nat.zero_le _, Nat.zero_le _⟩ (fun v1 w1 H locs hq hP hD hS => ?_)
    rcases hq with ⟨rfl, rfl⟩
    have hP : va_P D vwCl ([(h, .inr (2, [.ref qr, .ref qp, .int (nI md), .int (r0), .int (r1), .int (r2), .int (r3)])), (qr, .inl (cR, 3, .inr (.inr (.inr (.inr (fun i => some (ro i))))))), (qp, .inl (cP, 4, .inr (.inr (.inr (.inr (fun i => some (po i))))))), (po 3, .inr (0, [va_rf (pr3), .int (pa3), .int (ps3), .int (ph3), .int (pt3), .int (pm3)])), (ro i, .inr (1, [.ref a, .int (nI n), .int (ch)])), (a, .inl (cI, 60, .inl (f))), (ro j, .inr (1, [.ref a2, .int (nI n2), .int (ch2)])), (a2, .inl (cI, 60, .inl (g))), (po 0, .inr (0, [va_rf (if pr0 = some (ro i) then none else pr0), .int (pa0), .int (ps0), .int (ph0), .int (pt0), .int (pm0)])), (po 1, .inr (0, [va_rf (if pr1 = some (ro i) then none else pr1), .int (pa1), .int (ps1), .int (ph1), .int (pt1), .int (pm1)])), (po 2, .inr (0, [va_rf (if pr2 = some (ro i) then none else pr2), .int (pa2), .int (ps2), .int (ph2), .int (pt2), .int (pm2)]))]) H := hP
    have hD : va_D A ([(h, .inr (2, [.ref qr, .ref qp, .int (nI md), .int (r0), .int (r1), .int (r2), .int (r3)])), (qr, .inl (cR, 3, .inr (.inr (.inr (.inr (fun i => some (ro i))))))), (qp, .inl (cP, 4, .inr (.inr (.inr (.inr (fun i => some (po i))))))), (po 3, .inr (0, [va_rf (pr3), .int (pa3), .int (ps3), .int (ph3), .int (pt3), .int (pm3)])), (ro i, .inr (1, [.ref a, .int (nI n), .int (ch)])), (a, .inl (cI, 60, .inl (f))), (ro j, .inr (1, [.ref a2, .int (nI n2), .int (ch2)])), (a2, .inl (cI, 60, .inl (g))), (po 0, .inr (0, [va_rf (if pr0 = some (ro i) then none else pr0), .int (pa0), .int (ps0), .int (ph0), .int (pt0), .int (pm0)])), (po 1, .inr (0, [va_rf (if pr1 = some (ro i) then none else pr1), .int (pa1), .int (ps1), .int (ph1), .int (pt1), .int (pm1)])), (po 2, .inr (0, [va_rf (if pr2 = some (ro i) then none else pr2), .int (pa2), .int (ps2), .int (ph2), .int (pt2), .int (pm2)]))]) := hD
    refine W.eq (g2 := F0 m 54 ls []) rfl ?_
    refine lv_iinc (v := nI 3) (lv' := [(5, .int (nI 3)), (4, .ref (ro j)), (3, .ref (ro i)), (0, .ref h), (1, .int (nI i)), (2, .int (nI j))]) hx hb dX2_copy_54 hl (k := 0) rfl (pw_inc _ 1) (by decide) rfl (fun ls hl => ?_)
    refine lv_goto (tgt := 33) hx hb dX2_copy_57 (by decide) ?_
    refine lv_iload hx hb dX2_copy_33 (lv_at hl 0 rfl) ?_
    refine lv_aload_n hx hb dX2_copy_35 rfl (lv_at hl 3 rfl) ?_
    refine va_get (D := D) (ci := 2) (v := .ref qp) (C := RX2) (T := TX2) (N := 7) hx hb hts hi_X2_copy_2 hown hK.1 hP 0 rfl rfl 1 (by decide) (hts _ hf_X2_copy_17) (fun _ h9 => h9) rfl dX2_copy_36 ?_
    refine va_alen (v := nI 4) hx hb hK.1 hP 2 1 rfl rfl rfl dX2_copy_39 ?_
    refine lv_icmp_ge (tgt := 60) hx hb dX2_copy_40 (by decide) (fun c => absurd c (by decide)) (fun c => ?_)
    refine lv_aload_n hx hb dX2_copy_43 rfl (lv_at hl 3 rfl) ?_
    refine va_get (D := D) (ci := 2) (v := .ref qp) (C := RX2) (T := TX2) (N := 7) hx hb hts hi_X2_copy_2 hown hK.1 hP 0 rfl rfl 1 (by decide) (hts _ hf_X2_copy_17) (fun _ h9 => h9) rfl dX2_copy_44 ?_
    refine lv_iload hx hb dX2_copy_47 (lv_at hl 0 rfl) ?_
    refine pw_aldq hx hb hK.1 hP 2 1 rfl rfl (by decide) (by omega) dX2_copy_49 ?_
    refine lv_aload_n hx hb dX2_copy_50 rfl (lv_at hl 2 rfl) ?_
    -- c_leave
    refine pw_cVm (As := [.ref (ro i)]) (rest := []) (wc := [(po 3, .inr (0, [va_rf (pr3), .int (pa3), .int (ps3), .int (ph3), .int (pt3), .int (pm3)]))]) (wr := [(h, .inr (2, [.ref qr, .ref qp, .int (nI md), .int (r0), .int (r1), .int (r2), .int (r3)])), (qr, .inl (cR, 3, .inr (.inr (.inr (.inr (fun i => some (ro i))))))), (qp, .inl (cP, 4, .inr (.inr (.inr (.inr (fun i => some (po i))))))), (ro i, .inr (1, [.ref a, .int (nI n), .int (ch)])), (a, .inl (cI, 60, .inl (f))), (ro j, .inr (1, [.ref a2, .int (nI n2), .int (ch2)])), (a2, .inl (cI, 60, .inl (g))), (po 0, .inr (0, [va_rf (if pr0 = some (ro i) then none else pr0), .int (pa0), .int (ps0), .int (ph0), .int (pt0), .int (pm0)])), (po 1, .inr (0, [va_rf (if pr1 = some (ro i) then none else pr1), .int (pa1), .int (ps1), .int (ph1), .int (pt1), .int (pm1)])), (po 2, .inr (0, [va_rf (if pr2 = some (ro i) then none else pr2), .int (pa2), .int (ps2), .int (ph2), .int (pt2), .int (pm2)]))]) ⟨hx, hb, hml, hown, hts⟩ (c_leave l D cI cP cR (po 3) pa3 ps3 ph3 pt3 pm3 pr3 (ro i)) (cwV 1 hts gX2_copy_X0_leave rfl rfl rfl (by decide +kernel) ⟨Nat.le_of_ble_eq_true rfl, Nat.le_of_ble_eq_true rfl⟩) hK hP hD hS hA [3] [0, 1, 2, 4, 5, 6, 7, 8, 9, 10] rfl rfl (by decide) (by decide) (by decide) 0 rfl rfl rfl rfl hl.1 rfl (Nat.le_of_ble_eq_true rfl) dX2_copy_51 ⟨Nat.zero_le _, Nat.zero_le _⟩ (fun v1 w1 H locs hq hP hD hS => ?_)
    rcases hq with ⟨rfl, rfl⟩
    have hP : va_P D vwCl ([(h, .inr (2, [.ref qr, .ref qp, .int (nI md), .int (r0), .int (r1), .int (r2), .int (r3)])), (qr, .inl (cR, 3, .inr (.inr (.inr (.inr (fun i => some (ro i))))))), (qp, .inl (cP, 4, .inr (.inr (.inr (.inr (fun i => some (po i))))))), (ro i, .inr (1, [.ref a, .int (nI n), .int (ch)])), (a, .inl (cI, 60, .inl (f))), (ro j, .inr (1, [.ref a2, .int (nI n2), .int (ch2)])), (a2, .inl (cI, 60, .inl (g))), (po 0, .inr (0, [va_rf (if pr0 = some (ro i) then none else pr0), .int (pa0), .int (ps0), .int (ph0), .int (pt0), .int (pm0)])), (po 1, .inr (0, [va_rf (if pr1 = some (ro i) then none else pr1), .int (pa1), .int (ps1), .int (ph1), .int (pt1), .int (pm1)])), (po 2, .inr (0, [va_rf (if pr2 = some (ro i) then none else pr2), .int (pa2), .int (ps2), .int (ph2), .int (pt2), .int (pm2)])), (po 3, .inr (0, [va_rf (if pr3 = some (ro i) then none else pr3), .int (pa3), .int (ps3), .int (ph3), .int (pt3), .int (pm3)]))]) H := hP
    have hD : va_D A ([(h, .inr (2, [.ref qr, .ref qp, .int (nI md), .int (r0), .int (r1), .int (r2), .int (r3)])), (qr, .inl (cR, 3, .inr (.inr (.inr (.inr (fun i => some (ro i))))))), (qp, .inl (cP, 4, .inr (.inr (.inr (.inr (fun i => some (po i))))))), (ro i, .inr (1, [.ref a, .int (nI n), .int (ch)])), (a, .inl (cI, 60, .inl (f))), (ro j, .inr (1, [.ref a2, .int (nI n2), .int (ch2)])), (a2, .inl (cI, 60, .inl (g))), (po 0, .inr (0, [va_rf (if pr0 = some (ro i) then none else pr0), .int (pa0), .int (ps0), .int (ph0), .int (pt0), .int (pm0)])), (po 1, .inr (0, [va_rf (if pr1 = some (ro i) then none else pr1), .int (pa1), .int (ps1), .int (ph1), .int (pt1), .int (pm1)])), (po 2, .inr (0, [va_rf (if pr2 = some (ro i) then none else pr2), .int (pa2), .int (ps2), .int (ph2), .int (pt2), .int (pm2)])), (po 3, .inr (0, [va_rf (if pr3 = some (ro i) then none else pr3), .int (pa3), .int (ps3), .int (ph3), .int (pt3), .int (pm3)]))]) := hD
    refine W.eq (g2 := F0 m 54 ls []) rfl ?_
    refine lv_iinc (v := nI 4) (lv' := [(5, .int (nI 4)), (4, .ref (ro j)), (3, .ref (ro i)), (0, .ref h), (1, .int (nI i)), (2, .int (nI j))]) hx hb dX2_copy_54 hl (k := 0) rfl (pw_inc _ 1) (by decide) rfl (fun ls hl => ?_)
    refine lv_goto (tgt := 33) hx hb dX2_copy_57 (by decide) ?_
    refine lv_iload hx hb dX2_copy_33 (lv_at hl 0 rfl) ?_
    refine lv_aload_n hx hb dX2_copy_35 rfl (lv_at hl 3 rfl) ?_
    refine va_get (D := D) (ci := 2) (v := .ref qp) (C := RX2) (T := TX2) (N := 7) hx hb hts hi_X2_copy_2 hown hK.1 hP 0 rfl rfl 1 (by decide) (hts _ hf_X2_copy_17) (fun _ h9 => h9) rfl dX2_copy_36 ?_
    refine va_alen (v := nI 4) hx hb hK.1 hP 2 1 rfl rfl rfl dX2_copy_39 ?_
    refine lv_icmp_ge (tgt := 60) hx hb dX2_copy_40 (by decide) (fun c => ?_) (fun c => absurd c (by decide))
    refine lv_aload_n hx hb dX2_copy_60 rfl (lv_at hl 2 rfl) ?_
    refine lv_aload hx hb dX2_copy_61 (lv_at hl 1 rfl) ?_
    -- c_becomeLike
    refine pw_cVm (As := [.ref (ro j)]) (rest := []) (wc := [(ro i, .inr (1, [.ref a, .int (nI n), .int (ch)])), (a, .inl (cI, 60, .inl (f))), (ro j, .inr (1, [.ref a2, .int (nI n2), .int (ch2)])), (a2, .inl (cI, 60, .inl (g)))]) (wr := [(h, .inr (2, [.ref qr, .ref qp, .int (nI md), .int (r0), .int (r1), .int (r2), .int (r3)])), (qr, .inl (cR, 3, .inr (.inr (.inr (.inr (fun i => some (ro i))))))), (qp, .inl (cP, 4, .inr (.inr (.inr (.inr (fun i => some (po i))))))), (po 0, .inr (0, [va_rf (if pr0 = some (ro i) then none else pr0), .int (pa0), .int (ps0), .int (ph0), .int (pt0), .int (pm0)])), (po 1, .inr (0, [va_rf (if pr1 = some (ro i) then none else pr1), .int (pa1), .int (ps1), .int (ph1), .int (pt1), .int (pm1)])), (po 2, .inr (0, [va_rf (if pr2 = some (ro i) then none else pr2), .int (pa2), .int (ps2), .int (ph2), .int (pt2), .int (pm2)])), (po 3, .inr (0, [va_rf (if pr3 = some (ro i) then none else pr3), .int (pa3), .int (ps3), .int (ph3), .int (pt3), .int (pm3)]))]) ⟨hx, hb, hml, hown, hts⟩ (c_becomeLike l D cI cP cR (ro i) a n ch f (ro j) a2 n2 ch2 g (by omega)) (cwV 1 hts gX2_copy_X1_becomeLike rfl rfl rfl (by decide +kernel) ⟨Nat.le_of_ble_eq_true rfl, Nat.le_of_ble_eq_true rfl⟩) hK hP hD hS hA [3, 4, 5, 6] [0, 1, 2, 7, 8, 9, 10] rfl rfl (by decide) (by decide) (by decide) 0 rfl rfl rfl rfl hl.1 rfl (Nat.le_of_ble_eq_true rfl) dX2_copy_63 ⟨Nat.zero_le _, Nat.zero_le _⟩ (fun v1 w1 H locs hq hP hD hS => ?_)
    rcases hq with ⟨rfl, rfl⟩
    have hP : va_P D vwCl ([(h, .inr (2, [.ref qr, .ref qp, .int (nI md), .int (r0), .int (r1), .int (r2), .int (r3)])), (qr, .inl (cR, 3, .inr (.inr (.inr (.inr (fun i => some (ro i))))))), (qp, .inl (cP, 4, .inr (.inr (.inr (.inr (fun i => some (po i))))))), (po 0, .inr (0, [va_rf (if pr0 = some (ro i) then none else pr0), .int (pa0), .int (ps0), .int (ph0), .int (pt0), .int (pm0)])), (po 1, .inr (0, [va_rf (if pr1 = some (ro i) then none else pr1), .int (pa1), .int (ps1), .int (ph1), .int (pt1), .int (pm1)])), (po 2, .inr (0, [va_rf (if pr2 = some (ro i) then none else pr2), .int (pa2), .int (ps2), .int (ph2), .int (pt2), .int (pm2)])), (po 3, .inr (0, [va_rf (if pr3 = some (ro i) then none else pr3), .int (pa3), .int (ps3), .int (ph3), .int (pt3), .int (pm3)])), (ro i, .inr (1, [.ref a, .int (nI n2), .int (ch)])), (a, .inl (cI, 60, .inl (putF f 0 g n2))), (ro j, .inr (1, [.ref a2, .int (nI n2), .int (ch2)])), (a2, .inl (cI, 60, .inl (g)))]) H := hP
    have hD : va_D A ([(h, .inr (2, [.ref qr, .ref qp, .int (nI md), .int (r0), .int (r1), .int (r2), .int (r3)])), (qr, .inl (cR, 3, .inr (.inr (.inr (.inr (fun i => some (ro i))))))), (qp, .inl (cP, 4, .inr (.inr (.inr (.inr (fun i => some (po i))))))), (po 0, .inr (0, [va_rf (if pr0 = some (ro i) then none else pr0), .int (pa0), .int (ps0), .int (ph0), .int (pt0), .int (pm0)])), (po 1, .inr (0, [va_rf (if pr1 = some (ro i) then none else pr1), .int (pa1), .int (ps1), .int (ph1), .int (pt1), .int (pm1)])), (po 2, .inr (0, [va_rf (if pr2 = some (ro i) then none else pr2), .int (pa2), .int (ps2), .int (ph2), .int (pt2), .int (pm2)])), (po 3, .inr (0, [va_rf (if pr3 = some (ro i) then none else pr3), .int (pa3), .int (ps3), .int (ph3), .int (pt3), .int (pm3)])), (ro i, .inr (1, [.ref a, .int (nI n2), .int (ch)])), (a, .inl (cI, 60, .inl (putF f 0 g n2))), (ro j, .inr (1, [.ref a2, .int (nI n2), .int (ch2)])), (a2, .inl (cI, 60, .inl (g)))]) := hD
    refine W.eq (g2 := F0 m 66 ls []) rfl ?_
    refine lv_aload_n hx hb dX2_copy_66 rfl (lv_at hl 2 rfl) ?_
    refine va_getN (D := D) (ci := 1) (v := .int (nI n2)) (C := RX1) (T := TX1) (N := 3) hx hb hts hi_X2_copy_1 hown hK.1 hP 7 rfl rfl 1 (by decide) (va_Nw.use rfl hNW.1) (fun _ h9 => h9) rfl dX2_copy_67 ?_
    have hP := hP.sub (ws' := [(h, .inr (2, [.ref qr, .ref qp, .int (nI md), .int (r0), .int (r1), .int (r2), .int (r3)])), (qr, .inl (cR, 3, .inr (.inr (.inr (.inr (fun i => some (ro i))))))), (qp, .inl (cP, 4, .inr (.inr (.inr (.inr (fun i => some (po i))))))), (po 0, .inr (0, [va_rf (if pr0 = some (ro i) then none else pr0), .int (pa0), .int (ps0), .int (ph0), .int (pt0), .int (pm0)])), (po 1, .inr (0, [va_rf (if pr1 = some (ro i) then none else pr1), .int (pa1), .int (ps1), .int (ph1), .int (pt1), .int (pm1)])), (po 2, .inr (0, [va_rf (if pr2 = some (ro i) then none else pr2), .int (pa2), .int (ps2), .int (ph2), .int (pt2), .int (pm2)])), (po 3, .inr (0, [va_rf (if pr3 = some (ro i) then none else pr3), .int (pa3), .int (ps3), .int (ph3), .int (pt3), .int (pm3)])), (ro i, .inr (1, [.ref a, .int (nI n2), .int (ch)])), (a, .inl (cI, 60, .inl (putF f 0 g n2))), (ro j, .inr (1, [.ref a2, .int (nI n2), .int (ch2)])), (a2, .inl (cI, 60, .inl (g)))]) [0, 1, 2, 3, 4, 5, 6, 7, 8, 9, 10] rfl
    have hD := hD.sub (ws' := [(h, .inr (2, [.ref qr, .ref qp, .int (nI md), .int (r0), .int (r1), .int (r2), .int (r3)])), (qr, .inl (cR, 3, .inr (.inr (.inr (.inr (fun i => some (ro i))))))), (qp, .inl (cP, 4, .inr (.inr (.inr (.inr (fun i => some (po i))))))), (po 0, .inr (0, [va_rf (if pr0 = some (ro i) then none else pr0), .int (pa0), .int (ps0), .int (ph0), .int (pt0), .int (pm0)])), (po 1, .inr (0, [va_rf (if pr1 = some (ro i) then none else pr1), .int (pa1), .int (ps1), .int (ph1), .int (pt1), .int (pm1)])), (po 2, .inr (0, [va_rf (if pr2 = some (ro i) then none else pr2), .int (pa2), .int (ps2), .int (ph2), .int (pt2), .int (pm2)])), (po 3, .inr (0, [va_rf (if pr3 = some (ro i) then none else pr3), .int (pa3), .int (ps3), .int (ph3), .int (pt3), .int (pm3)])), (ro i, .inr (1, [.ref a, .int (nI n2), .int (ch)])), (a, .inl (cI, 60, .inl (putF f 0 g n2))), (ro j, .inr (1, [.ref a2, .int (nI n2), .int (ch2)])), (a2, .inl (cI, 60, .inl (g)))]) [0, 1, 2, 3, 4, 5, 6, 7, 8, 9, 10] (by decide) rfl
    exact pw_iret hx hb hr (rfl) hlocks dX2_copy_70 hS hP hD (⟨rfl, rfl⟩)
  · exact absurd (Option.some.inj c_1) hro
set_option maxHeartbeats 4000000 in
set_option maxRecDepth 100000 in
theorem k_peg_x (l : Launch) (D : va_G) (cI cP cR : ClassId) (h qr qp md : Nat) (r0 r1 r2 r3 : Int32) (ro po : Nat → Nat) (peg q : Int32) (i : Nat) (hi : i < 3) (hx_peg : ¬ (0 ≤ peg ∧ peg < nI 4)) : pw_Mp l yX2_peg wsX2_peg ({ frames := 2, cells := 0, slots := 0, locals := 45 } : Room) D cI cP cR [.ref h, .int (peg), .int (nI i), .int (q)] ([(h, .inr (2, [.ref qr, .ref qp, .int (nI md), .int (r0), .int (r1), .int (r2), .int (r3)])), (qr, .inl (cR, 3, .inr (.inr (.inr (.inr (fun i => some (ro i))))))), (qp, .inl (cP, 4, .inr (.inr (.inr (.inr (fun i => some (po i)))))))]) (.int (-1)) := by
  refine pw_ofp (cc := cX2_peg) (maxL := 6) (ret := (some .int)) (own := RX2) (by decide +kernel) rfl rfl (Nat.le_of_ble_eq_true rfl) ?_
  intro p_ e_ s m bel meth cd hE hK hP hD ls hl
  obtain ⟨hx, hb, hr, hml, hown, hts, hlocks⟩ := hE
  have hNW := hK.2
  have hl : lv_has ls 6 [(0, .ref h), (1, .int (peg)), (2, .int (nI i)), (3, .int (q))] := hl
  refine lv_aload_n hx hb dX2_peg_0 rfl (lv_at hl 0 rfl) ?_
  refine lv_iload_n hx hb dX2_peg_1 rfl (lv_at hl 1 rfl) ?_
  -- c_pegOf_n
  refine pw_cVp (As := [.int (peg)]) (rest := []) (wc := [(h, .inr (2, [.ref qr, .ref qp, .int (nI md), .int (r0), .int (r1), .int (r2), .int (r3)])), (qp, .inl (cP, 4, .inr (.inr (.inr (.inr (fun i => some (po i)))))))]) ⟨hx, hb, hml, hown, hts⟩ (c_pegOf_n l D cI cP cR h qr qp md r0 r1 r2 r3 po peg hx_peg) (cwV 1 hts gX2_peg_X2_pegOf rfl rfl rfl (by decide +kernel) ⟨Nat.le_of_ble_eq_true rfl, Nat.le_of_ble_eq_true rfl⟩) hK hP hD [0, 2] rfl (by decide) 0 rfl rfl rfl rfl hl.1 rfl (Nat.le_of_ble_eq_true rfl) dX2_peg_2 ⟨Nat.zero_le _, Nat.zero_le _⟩ ?_
  refine lv_astoreN (lv' := [(4, .null), (0, .ref h), (1, .int (peg)), (2, .int (nI i)), (3, .int (q))]) hx hb dX2_peg_5 hl (by decide) rfl (fun ls hl => ?_)
  refine lv_aload_n hx hb dX2_peg_7 rfl (lv_at hl 1 rfl) ?_
  refine lv_iload_n hx hb dX2_peg_8 rfl (lv_at hl 3 rfl) ?_
  -- c_rowOf_i
  refine pw_cVp (As := [.int (nI i)]) (rest := []) (wc := [(h, .inr (2, [.ref qr, .ref qp, .int (nI md), .int (r0), .int (r1), .int (r2), .int (r3)])), (qr, .inl (cR, 3, .inr (.inr (.inr (.inr (fun i => some (ro i)))))))]) ⟨hx, hb, hml, hown, hts⟩ (c_rowOf_i l D cI cP cR h qr qp md r0 r1 r2 r3 ro i (by omega)) (cwV 1 hts gX2_peg_X2_rowOf rfl rfl rfl (by decide +kernel) ⟨Nat.le_of_ble_eq_true rfl, Nat.le_of_ble_eq_true rfl⟩) hK hP hD [0, 1] rfl (by decide) 0 rfl rfl rfl rfl hl.1 rfl (Nat.le_of_ble_eq_true rfl) dX2_peg_9 ⟨Nat.zero_le _, Nat.zero_le _⟩ ?_
  refine lv_astore (lv' := [(5, .ref (ro i)), (4, .null), (0, .ref h), (1, .int (peg)), (2, .int (nI i)), (3, .int (q))]) hx hb dX2_peg_12 hl (by decide) rfl (fun ls hl => ?_)
  refine lv_aloadN hx hb dX2_peg_14 (lv_at hl 1 rfl) ?_
  refine lv_ifnullN (tgt := 24) hx hb dX2_peg_16 (by decide) ?_
  refine lv_iconst (v := -1) hx hb dX2_peg_24 (by decide) ?_
  exact pw_piret hx hb hr (rfl) hlocks dX2_peg_25 (rfl)
set_option maxHeartbeats 4000000 in
set_option maxRecDepth 100000 in
theorem k_peg_y (l : Launch) (D : va_G) (cI cP cR : ClassId) (h qr qp md : Nat) (r0 r1 r2 r3 : Int32) (ro po : Nat → Nat) (peg row q : Int32) (hx_peg : ¬ (0 ≤ peg ∧ peg < nI 4)) (hx_row : ¬ (0 ≤ row ∧ row < nI 3)) : pw_Mp l yX2_peg wsX2_peg ({ frames := 2, cells := 0, slots := 0, locals := 45 } : Room) D cI cP cR [.ref h, .int (peg), .int (row), .int (q)] ([(h, .inr (2, [.ref qr, .ref qp, .int (nI md), .int (r0), .int (r1), .int (r2), .int (r3)])), (qr, .inl (cR, 3, .inr (.inr (.inr (.inr (fun i => some (ro i))))))), (qp, .inl (cP, 4, .inr (.inr (.inr (.inr (fun i => some (po i)))))))]) (.int (-1)) := by
  refine pw_ofp (cc := cX2_peg) (maxL := 6) (ret := (some .int)) (own := RX2) (by decide +kernel) rfl rfl (Nat.le_of_ble_eq_true rfl) ?_
  intro p_ e_ s m bel meth cd hE hK hP hD ls hl
  obtain ⟨hx, hb, hr, hml, hown, hts, hlocks⟩ := hE
  have hNW := hK.2
  have hl : lv_has ls 6 [(0, .ref h), (1, .int (peg)), (2, .int (row)), (3, .int (q))] := hl
  refine lv_aload_n hx hb dX2_peg_0 rfl (lv_at hl 0 rfl) ?_
  refine lv_iload_n hx hb dX2_peg_1 rfl (lv_at hl 1 rfl) ?_
  -- c_pegOf_n
  refine pw_cVp (As := [.int (peg)]) (rest := []) (wc := [(h, .inr (2, [.ref qr, .ref qp, .int (nI md), .int (r0), .int (r1), .int (r2), .int (r3)])), (qp, .inl (cP, 4, .inr (.inr (.inr (.inr (fun i => some (po i)))))))]) ⟨hx, hb, hml, hown, hts⟩ (c_pegOf_n l D cI cP cR h qr qp md r0 r1 r2 r3 po peg hx_peg) (cwV 1 hts gX2_peg_X2_pegOf rfl rfl rfl (by decide +kernel) ⟨Nat.le_of_ble_eq_true rfl, Nat.le_of_ble_eq_true rfl⟩) hK hP hD [0, 2] rfl (by decide) 0 rfl rfl rfl rfl hl.1 rfl (Nat.le_of_ble_eq_true rfl) dX2_peg_2 ⟨Nat.zero_le _, Nat.zero_le _⟩ ?_
  refine lv_astoreN (lv' := [(4, .null), (0, .ref h), (1, .int (peg)), (2, .int (row)), (3, .int (q))]) hx hb dX2_peg_5 hl (by decide) rfl (fun ls hl => ?_)
  refine lv_aload_n hx hb dX2_peg_7 rfl (lv_at hl 1 rfl) ?_
  refine lv_iload_n hx hb dX2_peg_8 rfl (lv_at hl 3 rfl) ?_
  -- c_rowOf_n
  refine pw_cVp (As := [.int (row)]) (rest := []) (wc := [(h, .inr (2, [.ref qr, .ref qp, .int (nI md), .int (r0), .int (r1), .int (r2), .int (r3)])), (qr, .inl (cR, 3, .inr (.inr (.inr (.inr (fun i => some (ro i)))))))]) ⟨hx, hb, hml, hown, hts⟩ (c_rowOf_n l D cI cP cR h qr qp md r0 r1 r2 r3 ro row hx_row) (cwV 1 hts gX2_peg_X2_rowOf rfl rfl rfl (by decide +kernel) ⟨Nat.le_of_ble_eq_true rfl, Nat.le_of_ble_eq_true rfl⟩) hK hP hD [0, 1] rfl (by decide) 0 rfl rfl rfl rfl hl.1 rfl (Nat.le_of_ble_eq_true rfl) dX2_peg_9 ⟨Nat.zero_le _, Nat.zero_le _⟩ ?_
  refine lv_astoreN (lv' := [(5, .null), (4, .null), (0, .ref h), (1, .int (peg)), (2, .int (row)), (3, .int (q))]) hx hb dX2_peg_12 hl (by decide) rfl (fun ls hl => ?_)
  refine lv_aloadN hx hb dX2_peg_14 (lv_at hl 1 rfl) ?_
  refine lv_ifnullN (tgt := 24) hx hb dX2_peg_16 (by decide) ?_
  refine lv_iconst (v := -1) hx hb dX2_peg_24 (by decide) ?_
  exact pw_piret hx hb hr (rfl) hlocks dX2_peg_25 (rfl)
set_option maxHeartbeats 4000000 in
set_option maxRecDepth 100000 in
theorem k_peg_z (l : Launch) (D : va_G) (cI cP cR : ClassId) (h qr qp md : Nat) (r0 r1 r2 r3 : Int32) (ro po : Nat → Nat) (p : Nat) (hp4 : p < 4) (row q : Int32) (hx_row : ¬ (0 ≤ row ∧ row < nI 3)) : pw_Mp l yX2_peg wsX2_peg ({ frames := 2, cells := 0, slots := 0, locals := 45 } : Room) D cI cP cR [.ref h, .int (nI p), .int (row), .int (q)] ([(h, .inr (2, [.ref qr, .ref qp, .int (nI md), .int (r0), .int (r1), .int (r2), .int (r3)])), (qr, .inl (cR, 3, .inr (.inr (.inr (.inr (fun i => some (ro i))))))), (qp, .inl (cP, 4, .inr (.inr (.inr (.inr (fun i => some (po i)))))))]) (.int (-1)) := by
  refine pw_ofp (cc := cX2_peg) (maxL := 6) (ret := (some .int)) (own := RX2) (by decide +kernel) rfl rfl (Nat.le_of_ble_eq_true rfl) ?_
  intro p_ e_ s m bel meth cd hE hK hP hD ls hl
  obtain ⟨hx, hb, hr, hml, hown, hts, hlocks⟩ := hE
  have hNW := hK.2
  have hl : lv_has ls 6 [(0, .ref h), (1, .int (nI p)), (2, .int (row)), (3, .int (q))] := hl
  refine lv_aload_n hx hb dX2_peg_0 rfl (lv_at hl 0 rfl) ?_
  refine lv_iload_n hx hb dX2_peg_1 rfl (lv_at hl 1 rfl) ?_
  -- c_pegOf_i
  refine pw_cVp (As := [.int (nI p)]) (rest := []) (wc := [(h, .inr (2, [.ref qr, .ref qp, .int (nI md), .int (r0), .int (r1), .int (r2), .int (r3)])), (qp, .inl (cP, 4, .inr (.inr (.inr (.inr (fun i => some (po i)))))))]) ⟨hx, hb, hml, hown, hts⟩ (c_pegOf_i l D cI cP cR h qr qp md r0 r1 r2 r3 po p (by omega)) (cwV 1 hts gX2_peg_X2_pegOf rfl rfl rfl (by decide +kernel) ⟨Nat.le_of_ble_eq_true rfl, Nat.le_of_ble_eq_true rfl⟩) hK hP hD [0, 2] rfl (by decide) 0 rfl rfl rfl rfl hl.1 rfl (Nat.le_of_ble_eq_true rfl) dX2_peg_2 ⟨Nat.zero_le _, Nat.zero_le _⟩ ?_
  refine lv_astore (lv' := [(4, .ref (po p)), (0, .ref h), (1, .int (nI p)), (2, .int (row)), (3, .int (q))]) hx hb dX2_peg_5 hl (by decide) rfl (fun ls hl => ?_)
  refine lv_aload_n hx hb dX2_peg_7 rfl (lv_at hl 1 rfl) ?_
  refine lv_iload_n hx hb dX2_peg_8 rfl (lv_at hl 3 rfl) ?_
  -- c_rowOf_n
  refine pw_cVp (As := [.int (row)]) (rest := []) (wc := [(h, .inr (2, [.ref qr, .ref qp, .int (nI md), .int (r0), .int (r1), .int (r2), .int (r3)])), (qr, .inl (cR, 3, .inr (.inr (.inr (.inr (fun i => some (ro i)))))))]) ⟨hx, hb, hml, hown, hts⟩ (c_rowOf_n l D cI cP cR h qr qp md r0 r1 r2 r3 ro row hx_row) (cwV 1 hts gX2_peg_X2_rowOf rfl rfl rfl (by decide +kernel) ⟨Nat.le_of_ble_eq_true rfl, Nat.le_of_ble_eq_true rfl⟩) hK hP hD [0, 1] rfl (by decide) 0 rfl rfl rfl rfl hl.1 rfl (Nat.le_of_ble_eq_true rfl) dX2_peg_9 ⟨Nat.zero_le _, Nat.zero_le _⟩ ?_
  refine lv_astoreN (lv' := [(5, .null), (4, .ref (po p)), (0, .ref h), (1, .int (nI p)), (2, .int (row)), (3, .int (q))]) hx hb dX2_peg_12 hl (by decide) rfl (fun ls hl => ?_)
  refine lv_aload hx hb dX2_peg_14 (lv_at hl 1 rfl) ?_
  refine lv_ifnull hx hb dX2_peg_16 ?_
  refine lv_aloadN hx hb dX2_peg_19 (lv_at hl 0 rfl) ?_
  refine lv_ifnonnullN hx hb dX2_peg_21 ?_
  refine lv_iconst (v := -1) hx hb dX2_peg_24 (by decide) ?_
  exact pw_piret hx hb hr (rfl) hlocks dX2_peg_25 (rfl)
set_option maxHeartbeats 4000000 in
set_option maxRecDepth 100000 in
theorem k_peg_p (l : Launch) (D : va_G) (cI cP cR : ClassId) (h qr qp md : Nat) (r0 r1 r2 r3 : Int32) (po ro : Nat → Nat) (p i a n : Nat) (ch : Int32) (f : Nat → Int32) (pv : Value) (pa ps ph pt pm : Int32) (hp4 : p < 4) (hi : i < 3) (hn : n ≤ 60) (q : Int32) (hq : ¬ (0 ≤ q ∧ q ≤ nI n)) : pw_Mm l yX2_peg wsX2_peg ({ frames := 2, cells := 0, slots := 0, locals := 45 } : Room) D cI cP cR [.ref h, .int (nI p), .int (nI i), .int (q)] ([(h, .inr (2, [.ref qr, .ref qp, .int (nI md), .int (r0), .int (r1), .int (r2), .int (r3)])), (qr, .inl (cR, 3, .inr (.inr (.inr (.inr (fun i => some (ro i))))))), (qp, .inl (cP, 4, .inr (.inr (.inr (.inr (fun i => some (po i))))))), (po p, .inr (0, [pv, .int (pa), .int (ps), .int (ph), .int (pt), .int (pm)])), (ro i, .inr (1, [.ref a, .int (nI n), .int (ch)])), (a, .inl (cI, 60, .inl (f)))]) (fun v w => v = some (.int (-5)) ∧ w = [(h, .inr (2, [.ref qr, .ref qp, .int (nI md), .int (r0), .int (r1 + nI 1), .int (r2), .int (r3)])), (qr, .inl (cR, 3, .inr (.inr (.inr (.inr (fun i => some (ro i))))))), (qp, .inl (cP, 4, .inr (.inr (.inr (.inr (fun i => some (po i))))))), (po p, .inr (0, [pv, .int (pa), .int (ps), .int (ph), .int (pt), .int (pm)])), (ro i, .inr (1, [.ref a, .int (nI n), .int (ch)])), (a, .inl (cI, 60, .inl (f)))]) := by
  refine pw_ofm (cc := cX2_peg) (maxL := 6) (ret := (some .int)) (own := RX2) (by decide +kernel) rfl rfl (Nat.le_of_ble_eq_true rfl) ?_
  intro p_ e_ s m bel meth cd A hE hK hP hD hA hS ls hl
  obtain ⟨hx, hb, hr, hml, hown, hts, hlocks⟩ := hE
  have hNW := hK.2
  have hl : lv_has ls 6 [(0, .ref h), (1, .int (nI p)), (2, .int (nI i)), (3, .int (q))] := hl
  refine lv_aload_n hx hb dX2_peg_0 rfl (lv_at hl 0 rfl) ?_
  refine lv_iload_n hx hb dX2_peg_1 rfl (lv_at hl 1 rfl) ?_
  -- c_pegOf_i
  refine pw_cVp (As := [.int (nI p)]) (rest := []) (wc := [(h, .inr (2, [.ref qr, .ref qp, .int (nI md), .int (r0), .int (r1), .int (r2), .int (r3)])), (qp, .inl (cP, 4, .inr (.inr (.inr (.inr (fun i => some (po i)))))))]) ⟨hx, hb, hml, hown, hts⟩ (c_pegOf_i l D cI cP cR h qr qp md r0 r1 r2 r3 po p (by omega)) (cwV 1 hts gX2_peg_X2_pegOf rfl rfl rfl (by decide +kernel) ⟨Nat.le_of_ble_eq_true rfl, Nat.le_of_ble_eq_true rfl⟩) hK hP hD [0, 2] rfl (by decide) 0 rfl rfl rfl rfl hl.1 rfl (Nat.le_of_ble_eq_true rfl) dX2_peg_2 ⟨Nat.zero_le _, Nat.zero_le _⟩ ?_
  refine lv_astore (lv' := [(4, .ref (po p)), (0, .ref h), (1, .int (nI p)), (2, .int (nI i)), (3, .int (q))]) hx hb dX2_peg_5 hl (by decide) rfl (fun ls hl => ?_)
  refine lv_aload_n hx hb dX2_peg_7 rfl (lv_at hl 1 rfl) ?_
  refine lv_iload_n hx hb dX2_peg_8 rfl (lv_at hl 3 rfl) ?_
  -- c_rowOf_i
  refine pw_cVp (As := [.int (nI i)]) (rest := []) (wc := [(h, .inr (2, [.ref qr, .ref qp, .int (nI md), .int (r0), .int (r1), .int (r2), .int (r3)])), (qr, .inl (cR, 3, .inr (.inr (.inr (.inr (fun i => some (ro i)))))))]) ⟨hx, hb, hml, hown, hts⟩ (c_rowOf_i l D cI cP cR h qr qp md r0 r1 r2 r3 ro i (by omega)) (cwV 1 hts gX2_peg_X2_rowOf rfl rfl rfl (by decide +kernel) ⟨Nat.le_of_ble_eq_true rfl, Nat.le_of_ble_eq_true rfl⟩) hK hP hD [0, 1] rfl (by decide) 0 rfl rfl rfl rfl hl.1 rfl (Nat.le_of_ble_eq_true rfl) dX2_peg_9 ⟨Nat.zero_le _, Nat.zero_le _⟩ ?_
  refine lv_astore (lv' := [(5, .ref (ro i)), (4, .ref (po p)), (0, .ref h), (1, .int (nI p)), (2, .int (nI i)), (3, .int (q))]) hx hb dX2_peg_12 hl (by decide) rfl (fun ls hl => ?_)
  refine lv_aload hx hb dX2_peg_14 (lv_at hl 1 rfl) ?_
  refine lv_ifnull hx hb dX2_peg_16 ?_
  refine lv_aload hx hb dX2_peg_19 (lv_at hl 0 rfl) ?_
  refine lv_ifnonnull (tgt := 26) hx hb dX2_peg_21 (by decide) ?_
  refine lv_aload hx hb dX2_peg_26 (lv_at hl 0 rfl) ?_
  refine lv_iload_n hx hb dX2_peg_28 rfl (lv_at hl 5 rfl) ?_
  -- c_canPutAt_f
  refine pw_cVp (As := [.int (q)]) (rest := []) (wc := [(ro i, .inr (1, [.ref a, .int (nI n), .int (ch)])), (a, .inl (cI, 60, .inl (f)))]) ⟨hx, hb, hml, hown, hts⟩ (c_canPutAt_f l D cI cP cR (ro i) a n ch f q hq) (cwV 1 hts gX2_peg_X1_canPutAt rfl rfl rfl (by decide +kernel) ⟨Nat.le_of_ble_eq_true rfl, Nat.le_of_ble_eq_true rfl⟩) hK hP hD [4, 5] rfl (by decide) 0 rfl rfl rfl rfl hl.1 rfl (Nat.le_of_ble_eq_true rfl) dX2_peg_29 ⟨Nat.zero_le _, Nat.zero_le _⟩ ?_
  refine lv_if_ne (tgt := 42) hx hb dX2_peg_32 (by decide) (fun c => absurd c (by decide)) (fun c => ?_)
  refine lv_aload_n hx hb dX2_peg_35 rfl (lv_at hl 2 rfl) ?_
  refine lv_bipush (v := -5) hx hb dX2_peg_36 (by decide) ?_
  -- c_refused_p
  refine pw_cVm (As := [.int (-5)]) (rest := []) (wc := [(h, .inr (2, [.ref qr, .ref qp, .int (nI md), .int (r0), .int (r1), .int (r2), .int (r3)]))]) (wr := [(qr, .inl (cR, 3, .inr (.inr (.inr (.inr (fun i => some (ro i))))))), (qp, .inl (cP, 4, .inr (.inr (.inr (.inr (fun i => some (po i))))))), (po p, .inr (0, [pv, .int (pa), .int (ps), .int (ph), .int (pt), .int (pm)])), (ro i, .inr (1, [.ref a, .int (nI n), .int (ch)])), (a, .inl (cI, 60, .inl (f)))]) ⟨hx, hb, hml, hown, hts⟩ (c_refused_p l D cI cP cR h qr qp md r0 r1 r2 r3) (cwV 1 hts gX2_peg_X2_refused rfl rfl rfl (by decide +kernel) ⟨Nat.le_of_ble_eq_true rfl, Nat.le_of_ble_eq_true rfl⟩) hK hP hD hS hA [0] [1, 2, 3, 4, 5] rfl rfl (by decide) (by decide) (by decide) 0 rfl rfl rfl rfl hl.1 rfl (Nat.le_of_ble_eq_true rfl) dX2_peg_38 ⟨Nat.zero_le _, Nat.zero_le _⟩ (fun v1 w1 H locs hq hP hD hS => ?_)
  rcases hq with ⟨rfl, rfl⟩
  have hP : va_P D vwCl ([(qr, .inl (cR, 3, .inr (.inr (.inr (.inr (fun i => some (ro i))))))), (qp, .inl (cP, 4, .inr (.inr (.inr (.inr (fun i => some (po i))))))), (po p, .inr (0, [pv, .int (pa), .int (ps), .int (ph), .int (pt), .int (pm)])), (ro i, .inr (1, [.ref a, .int (nI n), .int (ch)])), (a, .inl (cI, 60, .inl (f))), (h, .inr (2, [.ref qr, .ref qp, .int (nI md), .int (r0), .int (r1 + nI 1), .int (r2), .int (r3)]))]) H := hP
  have hD : va_D A ([(qr, .inl (cR, 3, .inr (.inr (.inr (.inr (fun i => some (ro i))))))), (qp, .inl (cP, 4, .inr (.inr (.inr (.inr (fun i => some (po i))))))), (po p, .inr (0, [pv, .int (pa), .int (ps), .int (ph), .int (pt), .int (pm)])), (ro i, .inr (1, [.ref a, .int (nI n), .int (ch)])), (a, .inl (cI, 60, .inl (f))), (h, .inr (2, [.ref qr, .ref qp, .int (nI md), .int (r0), .int (r1 + nI 1), .int (r2), .int (r3)]))]) := hD
  refine W.eq (g2 := F0 m 41 ls [.int (-5)]) rfl ?_
  have hP := hP.sub (ws' := [(h, .inr (2, [.ref qr, .ref qp, .int (nI md), .int (r0), .int (r1 + nI 1), .int (r2), .int (r3)])), (qr, .inl (cR, 3, .inr (.inr (.inr (.inr (fun i => some (ro i))))))), (qp, .inl (cP, 4, .inr (.inr (.inr (.inr (fun i => some (po i))))))), (po p, .inr (0, [pv, .int (pa), .int (ps), .int (ph), .int (pt), .int (pm)])), (ro i, .inr (1, [.ref a, .int (nI n), .int (ch)])), (a, .inl (cI, 60, .inl (f)))]) [5, 0, 1, 2, 3, 4] rfl
  have hD := hD.sub (ws' := [(h, .inr (2, [.ref qr, .ref qp, .int (nI md), .int (r0), .int (r1 + nI 1), .int (r2), .int (r3)])), (qr, .inl (cR, 3, .inr (.inr (.inr (.inr (fun i => some (ro i))))))), (qp, .inl (cP, 4, .inr (.inr (.inr (.inr (fun i => some (po i))))))), (po p, .inr (0, [pv, .int (pa), .int (ps), .int (ph), .int (pt), .int (pm)])), (ro i, .inr (1, [.ref a, .int (nI n), .int (ch)])), (a, .inl (cI, 60, .inl (f)))]) [5, 0, 1, 2, 3, 4] (by decide) rfl
  exact pw_iret hx hb hr (rfl) hlocks dX2_peg_41 hS hP hD (⟨rfl, rfl⟩)
set_option maxHeartbeats 4000000 in
set_option maxRecDepth 100000 in
theorem k_peg (l : Launch) (D : va_G) (cI cP cR : ClassId) (h qr qp md : Nat) (r0 r1 r2 r3 : Int32) (po ro : Nat → Nat) (p i a n : Nat) (ch : Int32) (f : Nat → Int32) (pv : Value) (pa ps ph pt pm : Int32) (hp4 : p < 4) (hi : i < 3) (hn : n ≤ 60) (j : Nat) (hj : j ≤ n) : pw_Mm l yX2_peg wsX2_peg ({ frames := 2, cells := 0, slots := 0, locals := 45 } : Room) D cI cP cR [.ref h, .int (nI p), .int (nI i), .int (nI j)] ([(h, .inr (2, [.ref qr, .ref qp, .int (nI md), .int (r0), .int (r1), .int (r2), .int (r3)])), (qr, .inl (cR, 3, .inr (.inr (.inr (.inr (fun i => some (ro i))))))), (qp, .inl (cP, 4, .inr (.inr (.inr (.inr (fun i => some (po i))))))), (po p, .inr (0, [pv, .int (pa), .int (ps), .int (ph), .int (pt), .int (pm)])), (ro i, .inr (1, [.ref a, .int (nI n), .int (ch)])), (a, .inl (cI, 60, .inl (f)))]) (fun v w => v = some (.int (nI j)) ∧ w = [(h, .inr (2, [.ref qr, .ref qp, .int (nI md), .int (r0), .int (r1), .int (r2), .int (r3)])), (qr, .inl (cR, 3, .inr (.inr (.inr (.inr (fun i => some (ro i))))))), (qp, .inl (cP, 4, .inr (.inr (.inr (.inr (fun i => some (po i))))))), (po p, .inr (0, [.ref (ro i), .int (nI j), .int (ch), .int (-1), .int (pt), .int (nI 0)])), (ro i, .inr (1, [.ref a, .int (nI n), .int (ch)])), (a, .inl (cI, 60, .inl (f)))]) := by
  refine pw_ofm (cc := cX2_peg) (maxL := 6) (ret := (some .int)) (own := RX2) (by decide +kernel) rfl rfl (Nat.le_of_ble_eq_true rfl) ?_
  intro p_ e_ s m bel meth cd A hE hK hP hD hA hS ls hl
  obtain ⟨hx, hb, hr, hml, hown, hts, hlocks⟩ := hE
  have hNW := hK.2
  have hl : lv_has ls 6 [(0, .ref h), (1, .int (nI p)), (2, .int (nI i)), (3, .int (nI j))] := hl
  refine lv_aload_n hx hb dX2_peg_0 rfl (lv_at hl 0 rfl) ?_
  refine lv_iload_n hx hb dX2_peg_1 rfl (lv_at hl 1 rfl) ?_
  -- c_pegOf_i
  refine pw_cVp (As := [.int (nI p)]) (rest := []) (wc := [(h, .inr (2, [.ref qr, .ref qp, .int (nI md), .int (r0), .int (r1), .int (r2), .int (r3)])), (qp, .inl (cP, 4, .inr (.inr (.inr (.inr (fun i => some (po i)))))))]) ⟨hx, hb, hml, hown, hts⟩ (c_pegOf_i l D cI cP cR h qr qp md r0 r1 r2 r3 po p (by omega)) (cwV 1 hts gX2_peg_X2_pegOf rfl rfl rfl (by decide +kernel) ⟨Nat.le_of_ble_eq_true rfl, Nat.le_of_ble_eq_true rfl⟩) hK hP hD [0, 2] rfl (by decide) 0 rfl rfl rfl rfl hl.1 rfl (Nat.le_of_ble_eq_true rfl) dX2_peg_2 ⟨Nat.zero_le _, Nat.zero_le _⟩ ?_
  refine lv_astore (lv' := [(4, .ref (po p)), (0, .ref h), (1, .int (nI p)), (2, .int (nI i)), (3, .int (nI j))]) hx hb dX2_peg_5 hl (by decide) rfl (fun ls hl => ?_)
  refine lv_aload_n hx hb dX2_peg_7 rfl (lv_at hl 1 rfl) ?_
  refine lv_iload_n hx hb dX2_peg_8 rfl (lv_at hl 3 rfl) ?_
  -- c_rowOf_i
  refine pw_cVp (As := [.int (nI i)]) (rest := []) (wc := [(h, .inr (2, [.ref qr, .ref qp, .int (nI md), .int (r0), .int (r1), .int (r2), .int (r3)])), (qr, .inl (cR, 3, .inr (.inr (.inr (.inr (fun i => some (ro i)))))))]) ⟨hx, hb, hml, hown, hts⟩ (c_rowOf_i l D cI cP cR h qr qp md r0 r1 r2 r3 ro i (by omega)) (cwV 1 hts gX2_peg_X2_rowOf rfl rfl rfl (by decide +kernel) ⟨Nat.le_of_ble_eq_true rfl, Nat.le_of_ble_eq_true rfl⟩) hK hP hD [0, 1] rfl (by decide) 0 rfl rfl rfl rfl hl.1 rfl (Nat.le_of_ble_eq_true rfl) dX2_peg_9 ⟨Nat.zero_le _, Nat.zero_le _⟩ ?_
  refine lv_astore (lv' := [(5, .ref (ro i)), (4, .ref (po p)), (0, .ref h), (1, .int (nI p)), (2, .int (nI i)), (3, .int (nI j))]) hx hb dX2_peg_12 hl (by decide) rfl (fun ls hl => ?_)
  refine lv_aload hx hb dX2_peg_14 (lv_at hl 1 rfl) ?_
  refine lv_ifnull hx hb dX2_peg_16 ?_
  refine lv_aload hx hb dX2_peg_19 (lv_at hl 0 rfl) ?_
  refine lv_ifnonnull (tgt := 26) hx hb dX2_peg_21 (by decide) ?_
  refine lv_aload hx hb dX2_peg_26 (lv_at hl 0 rfl) ?_
  refine lv_iload_n hx hb dX2_peg_28 rfl (lv_at hl 5 rfl) ?_
  -- c_canPutAt_t
  refine pw_cVp (As := [.int (nI j)]) (rest := []) (wc := [(ro i, .inr (1, [.ref a, .int (nI n), .int (ch)])), (a, .inl (cI, 60, .inl (f)))]) ⟨hx, hb, hml, hown, hts⟩ (c_canPutAt_t l D cI cP cR (ro i) a n ch f j (by omega) (by omega)) (cwV 1 hts gX2_peg_X1_canPutAt rfl rfl rfl (by decide +kernel) ⟨Nat.le_of_ble_eq_true rfl, Nat.le_of_ble_eq_true rfl⟩) hK hP hD [4, 5] rfl (by decide) 0 rfl rfl rfl rfl hl.1 rfl (Nat.le_of_ble_eq_true rfl) dX2_peg_29 ⟨Nat.zero_le _, Nat.zero_le _⟩ ?_
  refine lv_if_ne (tgt := 42) hx hb dX2_peg_32 (by decide) (fun c => ?_) (fun c => absurd c (by decide))
  refine lv_aload hx hb dX2_peg_42 (lv_at hl 1 rfl) ?_
  refine lv_aload hx hb dX2_peg_44 (lv_at hl 0 rfl) ?_
  refine lv_iload_n hx hb dX2_peg_46 rfl (lv_at hl 5 rfl) ?_
  -- c_standIn
  refine pw_cVm (As := [.ref (ro i), .int (nI j)]) (rest := []) (wc := [(po p, .inr (0, [pv, .int (pa), .int (ps), .int (ph), .int (pt), .int (pm)])), (ro i, .inr (1, [.ref a, .int (nI n), .int (ch)])), (a, .inl (cI, 60, .inl (f)))]) (wr := [(h, .inr (2, [.ref qr, .ref qp, .int (nI md), .int (r0), .int (r1), .int (r2), .int (r3)])), (qr, .inl (cR, 3, .inr (.inr (.inr (.inr (fun i => some (ro i))))))), (qp, .inl (cP, 4, .inr (.inr (.inr (.inr (fun i => some (po i)))))))]) ⟨hx, hb, hml, hown, hts⟩ (c_standIn l D cI cP cR (po p) pa ps ph pt pm (pv) (ro i) a n ch f (nI j)) (cwV 2 hts gX2_peg_X0_standIn rfl rfl rfl (by decide +kernel) ⟨Nat.le_of_ble_eq_true rfl, Nat.le_of_ble_eq_true rfl⟩) hK hP hD hS hA [3, 4, 5] [0, 1, 2] rfl rfl (by decide) (by decide) (by decide) 0 rfl rfl rfl rfl hl.1 rfl (Nat.le_of_ble_eq_true rfl) dX2_peg_47 ⟨Nat.zero_le _, Nat.zero_le _⟩ (fun v1 w1 H locs hq hP hD hS => ?_)
  rcases hq with ⟨rfl, rfl⟩
  have hP : va_P D vwCl ([(h, .inr (2, [.ref qr, .ref qp, .int (nI md), .int (r0), .int (r1), .int (r2), .int (r3)])), (qr, .inl (cR, 3, .inr (.inr (.inr (.inr (fun i => some (ro i))))))), (qp, .inl (cP, 4, .inr (.inr (.inr (.inr (fun i => some (po i))))))), (po p, .inr (0, [.ref (ro i), .int (nI j), .int (ch), .int (-1), .int (pt), .int (nI 0)])), (ro i, .inr (1, [.ref a, .int (nI n), .int (ch)])), (a, .inl (cI, 60, .inl (f)))]) H := hP
  have hD : va_D A ([(h, .inr (2, [.ref qr, .ref qp, .int (nI md), .int (r0), .int (r1), .int (r2), .int (r3)])), (qr, .inl (cR, 3, .inr (.inr (.inr (.inr (fun i => some (ro i))))))), (qp, .inl (cP, 4, .inr (.inr (.inr (.inr (fun i => some (po i))))))), (po p, .inr (0, [.ref (ro i), .int (nI j), .int (ch), .int (-1), .int (pt), .int (nI 0)])), (ro i, .inr (1, [.ref a, .int (nI n), .int (ch)])), (a, .inl (cI, 60, .inl (f)))]) := hD
  refine W.eq (g2 := F0 m 50 ls []) rfl ?_
  refine lv_iload_n hx hb dX2_peg_50 rfl (lv_at hl 5 rfl) ?_
  have hP := hP.sub (ws' := [(h, .inr (2, [.ref qr, .ref qp, .int (nI md), .int (r0), .int (r1), .int (r2), .int (r3)])), (qr, .inl (cR, 3, .inr (.inr (.inr (.inr (fun i => some (ro i))))))), (qp, .inl (cP, 4, .inr (.inr (.inr (.inr (fun i => some (po i))))))), (po p, .inr (0, [.ref (ro i), .int (nI j), .int (ch), .int (-1), .int (pt), .int (nI 0)])), (ro i, .inr (1, [.ref a, .int (nI n), .int (ch)])), (a, .inl (cI, 60, .inl (f)))]) [0, 1, 2, 3, 4, 5] rfl
  have hD := hD.sub (ws' := [(h, .inr (2, [.ref qr, .ref qp, .int (nI md), .int (r0), .int (r1), .int (r2), .int (r3)])), (qr, .inl (cR, 3, .inr (.inr (.inr (.inr (fun i => some (ro i))))))), (qp, .inl (cP, 4, .inr (.inr (.inr (.inr (fun i => some (po i))))))), (po p, .inr (0, [.ref (ro i), .int (nI j), .int (ch), .int (-1), .int (pt), .int (nI 0)])), (ro i, .inr (1, [.ref a, .int (nI n), .int (ch)])), (a, .inl (cI, 60, .inl (f)))]) [0, 1, 2, 3, 4, 5] (by decide) rfl
  exact pw_iret hx hb hr (rfl) hlocks dX2_peg_51 hS hP hD (⟨rfl, rfl⟩)
set_option maxHeartbeats 4000000 in
set_option maxRecDepth 100000 in
theorem c_go_x (l : Launch) (D : va_G) (cI cP cR : ClassId) (h qr qp md : Nat) (r0 r1 r2 r3 : Int32) (po : Nat → Nat) (peg la : Int32) (hx_peg : ¬ (0 ≤ peg ∧ peg < nI 4)) : pw_Mp l yX2_goOver wsX2_goOver ({ frames := 2, cells := 0, slots := 0, locals := 45 } : Room) D cI cP cR [.ref h, .int (peg), .int (la)] ([(h, .inr (2, [.ref qr, .ref qp, .int (nI md), .int (r0), .int (r1), .int (r2), .int (r3)])), (qp, .inl (cP, 4, .inr (.inr (.inr (.inr (fun i => some (po i)))))))]) (.int (-1)) := by
  refine pw_ofp (cc := cX2_goOver) (maxL := 6) (ret := (some .int)) (own := RX2) (by decide +kernel) rfl rfl (Nat.le_of_ble_eq_true rfl) ?_
  intro p_ e_ s m bel meth cd hE hK hP hD ls hl
  obtain ⟨hx, hb, hr, hml, hown, hts, hlocks⟩ := hE
  have hNW := hK.2
  have hl : lv_has ls 6 [(0, .ref h), (1, .int (peg)), (2, .int (la))] := hl
  refine lv_aload_n hx hb dX2_goOver_0 rfl (lv_at hl 0 rfl) ?_
  refine lv_iload_n hx hb dX2_goOver_1 rfl (lv_at hl 1 rfl) ?_
  -- c_pegOf_n
  refine pw_cVp (As := [.int (peg)]) (rest := []) (wc := [(h, .inr (2, [.ref qr, .ref qp, .int (nI md), .int (r0), .int (r1), .int (r2), .int (r3)])), (qp, .inl (cP, 4, .inr (.inr (.inr (.inr (fun i => some (po i)))))))]) ⟨hx, hb, hml, hown, hts⟩ (c_pegOf_n l D cI cP cR h qr qp md r0 r1 r2 r3 po peg hx_peg) (cwV 1 hts gX2_goOver_X2_pegOf rfl rfl rfl (by decide +kernel) ⟨Nat.le_of_ble_eq_true rfl, Nat.le_of_ble_eq_true rfl⟩) hK hP hD [0, 1] rfl (by decide) 0 rfl rfl rfl rfl hl.1 rfl (Nat.le_of_ble_eq_true rfl) dX2_goOver_2 ⟨Nat.zero_le _, Nat.zero_le _⟩ ?_
  refine lv_astore_nN (lv' := [(3, .null), (0, .ref h), (1, .int (peg)), (2, .int (la))]) hx hb dX2_goOver_5 rfl hl (by decide) rfl (fun ls hl => ?_)
  refine lv_aload_nN hx hb dX2_goOver_6 rfl (lv_at hl 0 rfl) ?_
  refine lv_ifnonnullN hx hb dX2_goOver_7 ?_
  refine lv_iconst (v := -1) hx hb dX2_goOver_10 (by decide) ?_
  exact pw_piret hx hb hr (rfl) hlocks dX2_goOver_11 (rfl)
theorem hi_X2_goOver_0 : ∀ w ∈ u_ws RX0 TX0 6, w ∈ wsX2_goOver := by decide +kernel
set_option maxHeartbeats 4000000 in
set_option maxRecDepth 100000 in
theorem c_go_n (l : Launch) (D : va_G) (cI cP cR : ClassId) (h qr qp md : Nat) (r0 r1 r2 r3 : Int32) (po : Nat → Nat) (p : Nat) (pa ps ph pt pm : Int32) (hp4 : p < 4) (la : Int32) : pw_Mp l yX2_goOver wsX2_goOver ({ frames := 2, cells := 0, slots := 0, locals := 45 } : Room) D cI cP cR [.ref h, .int (nI p), .int (la)] ([(h, .inr (2, [.ref qr, .ref qp, .int (nI md), .int (r0), .int (r1), .int (r2), .int (r3)])), (qp, .inl (cP, 4, .inr (.inr (.inr (.inr (fun i => some (po i))))))), (po p, .inr (0, [.null, .int (pa), .int (ps), .int (ph), .int (pt), .int (pm)]))]) (.int (-2)) := by
  refine pw_ofp (cc := cX2_goOver) (maxL := 6) (ret := (some .int)) (own := RX2) (by decide +kernel) rfl rfl (Nat.le_of_ble_eq_true rfl) ?_
  intro p_ e_ s m bel meth cd hE hK hP hD ls hl
  obtain ⟨hx, hb, hr, hml, hown, hts, hlocks⟩ := hE
  have hNW := hK.2
  have hl : lv_has ls 6 [(0, .ref h), (1, .int (nI p)), (2, .int (la))] := hl
  refine lv_aload_n hx hb dX2_goOver_0 rfl (lv_at hl 0 rfl) ?_
  refine lv_iload_n hx hb dX2_goOver_1 rfl (lv_at hl 1 rfl) ?_
  -- c_pegOf_i
  refine pw_cVp (As := [.int (nI p)]) (rest := []) (wc := [(h, .inr (2, [.ref qr, .ref qp, .int (nI md), .int (r0), .int (r1), .int (r2), .int (r3)])), (qp, .inl (cP, 4, .inr (.inr (.inr (.inr (fun i => some (po i)))))))]) ⟨hx, hb, hml, hown, hts⟩ (c_pegOf_i l D cI cP cR h qr qp md r0 r1 r2 r3 po p (by omega)) (cwV 1 hts gX2_goOver_X2_pegOf rfl rfl rfl (by decide +kernel) ⟨Nat.le_of_ble_eq_true rfl, Nat.le_of_ble_eq_true rfl⟩) hK hP hD [0, 1] rfl (by decide) 0 rfl rfl rfl rfl hl.1 rfl (Nat.le_of_ble_eq_true rfl) dX2_goOver_2 ⟨Nat.zero_le _, Nat.zero_le _⟩ ?_
  refine lv_astore_n (lv' := [(3, .ref (po p)), (0, .ref h), (1, .int (nI p)), (2, .int (la))]) hx hb dX2_goOver_5 rfl hl (by decide) rfl (fun ls hl => ?_)
  refine lv_aload_n hx hb dX2_goOver_6 rfl (lv_at hl 0 rfl) ?_
  refine lv_ifnonnull (tgt := 12) hx hb dX2_goOver_7 (by decide) ?_
  refine lv_aload_n hx hb dX2_goOver_12 rfl (lv_at hl 0 rfl) ?_
  refine va_getN (D := D) (ci := 0) (v := .null) (C := RX0) (T := TX0) (N := 6) hx hb hts hi_X2_goOver_0 hown hK.1 hP 2 rfl rfl 0 (by decide) (va_Nw.use rfl hNW.2.1) (fun _ h9 => h9) rfl dX2_goOver_13 ?_
  refine lv_astoreN (lv' := [(4, .null), (3, .ref (po p)), (0, .ref h), (1, .int (nI p)), (2, .int (la))]) hx hb dX2_goOver_16 hl (by decide) rfl (fun ls hl => ?_)
  refine lv_aloadN hx hb dX2_goOver_18 (lv_at hl 0 rfl) ?_
  refine lv_ifnonnullN hx hb dX2_goOver_20 ?_
  refine lv_bipush (v := -2) hx hb dX2_goOver_23 (by decide) ?_
  exact pw_piret hx hb hr (rfl) hlocks dX2_goOver_25 (rfl)
set_option maxHeartbeats 4000000 in
set_option maxRecDepth 100000 in
theorem c_go_o (l : Launch) (D : va_G) (cI cP cR : ClassId) (h qr qp md : Nat) (r0 r1 r2 r3 : Int32) (po ro : Nat → Nat) (p i a n : Nat) (ch : Int32) (f : Nat → Int32) (pa ps ph pt pm : Int32) (hp4 : p < 4) (hi : i < 3) (hn : n ≤ 60) (la : Int32) (ho : ¬ ps = ch) : pw_Mm l yX2_goOver wsX2_goOver ({ frames := 2, cells := 0, slots := 0, locals := 45 } : Room) D cI cP cR [.ref h, .int (nI p), .int (la)] ([(h, .inr (2, [.ref qr, .ref qp, .int (nI md), .int (r0), .int (r1), .int (r2), .int (r3)])), (qp, .inl (cP, 4, .inr (.inr (.inr (.inr (fun i => some (po i))))))), (po p, .inr (0, [.ref (ro i), .int (pa), .int (ps), .int (ph), .int (pt), .int (pm)])), (ro i, .inr (1, [.ref a, .int (nI n), .int (ch)])), (a, .inl (cI, 60, .inl (f)))]) (fun v w => v = some (.int (-4)) ∧ w = [(h, .inr (2, [.ref qr, .ref qp, .int (nI md), .int (r0), .int (r1), .int (r2), .int (r3 + nI 1)])), (qp, .inl (cP, 4, .inr (.inr (.inr (.inr (fun i => some (po i))))))), (po p, .inr (0, [.ref (ro i), .int (pa), .int (ps), .int (ph), .int (pt), .int (pm)])), (ro i, .inr (1, [.ref a, .int (nI n), .int (ch)])), (a, .inl (cI, 60, .inl (f)))]) := by
  refine pw_ofm (cc := cX2_goOver) (maxL := 6) (ret := (some .int)) (own := RX2) (by decide +kernel) rfl rfl (Nat.le_of_ble_eq_true rfl) ?_
  intro p_ e_ s m bel meth cd A hE hK hP hD hA hS ls hl
  obtain ⟨hx, hb, hr, hml, hown, hts, hlocks⟩ := hE
  have hNW := hK.2
  have hl : lv_has ls 6 [(0, .ref h), (1, .int (nI p)), (2, .int (la))] := hl
  refine lv_aload_n hx hb dX2_goOver_0 rfl (lv_at hl 0 rfl) ?_
  refine lv_iload_n hx hb dX2_goOver_1 rfl (lv_at hl 1 rfl) ?_
  -- c_pegOf_i
  refine pw_cVp (As := [.int (nI p)]) (rest := []) (wc := [(h, .inr (2, [.ref qr, .ref qp, .int (nI md), .int (r0), .int (r1), .int (r2), .int (r3)])), (qp, .inl (cP, 4, .inr (.inr (.inr (.inr (fun i => some (po i)))))))]) ⟨hx, hb, hml, hown, hts⟩ (c_pegOf_i l D cI cP cR h qr qp md r0 r1 r2 r3 po p (by omega)) (cwV 1 hts gX2_goOver_X2_pegOf rfl rfl rfl (by decide +kernel) ⟨Nat.le_of_ble_eq_true rfl, Nat.le_of_ble_eq_true rfl⟩) hK hP hD [0, 1] rfl (by decide) 0 rfl rfl rfl rfl hl.1 rfl (Nat.le_of_ble_eq_true rfl) dX2_goOver_2 ⟨Nat.zero_le _, Nat.zero_le _⟩ ?_
  refine lv_astore_n (lv' := [(3, .ref (po p)), (0, .ref h), (1, .int (nI p)), (2, .int (la))]) hx hb dX2_goOver_5 rfl hl (by decide) rfl (fun ls hl => ?_)
  refine lv_aload_n hx hb dX2_goOver_6 rfl (lv_at hl 0 rfl) ?_
  refine lv_ifnonnull (tgt := 12) hx hb dX2_goOver_7 (by decide) ?_
  refine lv_aload_n hx hb dX2_goOver_12 rfl (lv_at hl 0 rfl) ?_
  refine va_getN (D := D) (ci := 0) (v := .ref (ro i)) (C := RX0) (T := TX0) (N := 6) hx hb hts hi_X2_goOver_0 hown hK.1 hP 2 rfl rfl 0 (by decide) (va_Nw.use rfl hNW.2.1) (fun _ h9 => h9) rfl dX2_goOver_13 ?_
  refine lv_astore (lv' := [(4, .ref (ro i)), (3, .ref (po p)), (0, .ref h), (1, .int (nI p)), (2, .int (la))]) hx hb dX2_goOver_16 hl (by decide) rfl (fun ls hl => ?_)
  refine lv_aload hx hb dX2_goOver_18 (lv_at hl 0 rfl) ?_
  refine lv_ifnonnull (tgt := 26) hx hb dX2_goOver_20 (by decide) ?_
  refine lv_aload_n hx hb dX2_goOver_26 rfl (lv_at hl 1 rfl) ?_
  -- c_isOld_o
  refine pw_cVp (As := []) (rest := []) (wc := [(po p, .inr (0, [.ref (ro i), .int (pa), .int (ps), .int (ph), .int (pt), .int (pm)])), (ro i, .inr (1, [.ref a, .int (nI n), .int (ch)])), (a, .inl (cI, 60, .inl (f)))]) ⟨hx, hb, hml, hown, hts⟩ (c_isOld_o l D cI cP cR (po p) pa ps ph pt pm (ro i) a n ch f ho) (cwV 0 hts gX2_goOver_X0_isOld rfl rfl rfl (by decide +kernel) ⟨Nat.le_of_ble_eq_true rfl, Nat.le_of_ble_eq_true rfl⟩) hK hP hD [2, 3, 4] rfl (by decide) 0 rfl rfl rfl rfl hl.1 rfl (Nat.le_of_ble_eq_true rfl) dX2_goOver_27 ⟨Nat.zero_le _, Nat.zero_le _⟩ ?_
  refine lv_if_eq (tgt := 40) hx hb dX2_goOver_30 (by decide) (fun c => absurd c (by decide)) (fun c => ?_)
  refine lv_aload_n hx hb dX2_goOver_33 rfl (lv_at hl 2 rfl) ?_
  refine lv_bipush (v := -4) hx hb dX2_goOver_34 (by decide) ?_
  -- c_refused_o
  refine pw_cVm (As := [.int (-4)]) (rest := []) (wc := [(h, .inr (2, [.ref qr, .ref qp, .int (nI md), .int (r0), .int (r1), .int (r2), .int (r3)]))]) (wr := [(qp, .inl (cP, 4, .inr (.inr (.inr (.inr (fun i => some (po i))))))), (po p, .inr (0, [.ref (ro i), .int (pa), .int (ps), .int (ph), .int (pt), .int (pm)])), (ro i, .inr (1, [.ref a, .int (nI n), .int (ch)])), (a, .inl (cI, 60, .inl (f)))]) ⟨hx, hb, hml, hown, hts⟩ (c_refused_o l D cI cP cR h qr qp md r0 r1 r2 r3) (cwV 1 hts gX2_goOver_X2_refused rfl rfl rfl (by decide +kernel) ⟨Nat.le_of_ble_eq_true rfl, Nat.le_of_ble_eq_true rfl⟩) hK hP hD hS hA [0] [1, 2, 3, 4] rfl rfl (by decide) (by decide) (by decide) 0 rfl rfl rfl rfl hl.1 rfl (Nat.le_of_ble_eq_true rfl) dX2_goOver_36 ⟨Nat.zero_le _, Nat.zero_le _⟩ (fun v1 w1 H locs hq hP hD hS => ?_)
  rcases hq with ⟨rfl, rfl⟩
  have hP : va_P D vwCl ([(qp, .inl (cP, 4, .inr (.inr (.inr (.inr (fun i => some (po i))))))), (po p, .inr (0, [.ref (ro i), .int (pa), .int (ps), .int (ph), .int (pt), .int (pm)])), (ro i, .inr (1, [.ref a, .int (nI n), .int (ch)])), (a, .inl (cI, 60, .inl (f))), (h, .inr (2, [.ref qr, .ref qp, .int (nI md), .int (r0), .int (r1), .int (r2), .int (r3 + nI 1)]))]) H := hP
  have hD : va_D A ([(qp, .inl (cP, 4, .inr (.inr (.inr (.inr (fun i => some (po i))))))), (po p, .inr (0, [.ref (ro i), .int (pa), .int (ps), .int (ph), .int (pt), .int (pm)])), (ro i, .inr (1, [.ref a, .int (nI n), .int (ch)])), (a, .inl (cI, 60, .inl (f))), (h, .inr (2, [.ref qr, .ref qp, .int (nI md), .int (r0), .int (r1), .int (r2), .int (r3 + nI 1)]))]) := hD
  refine W.eq (g2 := F0 m 39 ls [.int (-4)]) rfl ?_
  have hP := hP.sub (ws' := [(h, .inr (2, [.ref qr, .ref qp, .int (nI md), .int (r0), .int (r1), .int (r2), .int (r3 + nI 1)])), (qp, .inl (cP, 4, .inr (.inr (.inr (.inr (fun i => some (po i))))))), (po p, .inr (0, [.ref (ro i), .int (pa), .int (ps), .int (ph), .int (pt), .int (pm)])), (ro i, .inr (1, [.ref a, .int (nI n), .int (ch)])), (a, .inl (cI, 60, .inl (f)))]) [4, 0, 1, 2, 3] rfl
  have hD := hD.sub (ws' := [(h, .inr (2, [.ref qr, .ref qp, .int (nI md), .int (r0), .int (r1), .int (r2), .int (r3 + nI 1)])), (qp, .inl (cP, 4, .inr (.inr (.inr (.inr (fun i => some (po i))))))), (po p, .inr (0, [.ref (ro i), .int (pa), .int (ps), .int (ph), .int (pt), .int (pm)])), (ro i, .inr (1, [.ref a, .int (nI n), .int (ch)])), (a, .inl (cI, 60, .inl (f)))]) [4, 0, 1, 2, 3] (by decide) rfl
  exact pw_iret hx hb hr (rfl) hlocks dX2_goOver_39 hS hP hD (⟨rfl, rfl⟩)
set_option maxHeartbeats 4000000 in
set_option maxRecDepth 100000 in
theorem c_go_e1 (l : Launch) (D : va_G) (cI cP cR : ClassId) (h qr qp md : Nat) (r0 r1 r2 r3 : Int32) (po ro : Nat → Nat) (p i a n : Nat) (ch : Int32) (f : Nat → Int32) (pa ps ph pt pm : Int32) (hp4 : p < 4) (hi : i < 3) (hn : n ≤ 60) (ho : ps = ch) (hw : 0 ≤ pa ∧ pa ≤ nI n) (hq : ¬ (0 ≤ pa ∧ pa < nI n)) : pw_Mm l yX2_goOver wsX2_goOver ({ frames := 2, cells := 0, slots := 0, locals := 45 } : Room) D cI cP cR [.ref h, .int (nI p), .int (nI 1)] ([(h, .inr (2, [.ref qr, .ref qp, .int (nI md), .int (r0), .int (r1), .int (r2), .int (r3)])), (qp, .inl (cP, 4, .inr (.inr (.inr (.inr (fun i => some (po i))))))), (po p, .inr (0, [.ref (ro i), .int (pa), .int (ps), .int (ph), .int (pt), .int (pm)])), (ro i, .inr (1, [.ref a, .int (nI n), .int (ch)])), (a, .inl (cI, 60, .inl (f)))]) (fun v w => v = some (.int (-6)) ∧ w = [(h, .inr (2, [.ref qr, .ref qp, .int (nI md), .int (r0 + nI 1), .int (r1), .int (r2), .int (r3)])), (qp, .inl (cP, 4, .inr (.inr (.inr (.inr (fun i => some (po i))))))), (po p, .inr (0, [.ref (ro i), .int (pa), .int (ps), .int (ph), .int (pt), .int (nI 1)])), (ro i, .inr (1, [.ref a, .int (nI n), .int (ch)])), (a, .inl (cI, 60, .inl (f)))]) := by
  refine pw_ofm (cc := cX2_goOver) (maxL := 6) (ret := (some .int)) (own := RX2) (by decide +kernel) rfl rfl (Nat.le_of_ble_eq_true rfl) ?_
  intro p_ e_ s m bel meth cd A hE hK hP hD hA hS ls hl
  obtain ⟨hx, hb, hr, hml, hown, hts, hlocks⟩ := hE
  have hNW := hK.2
  have hl : lv_has ls 6 [(0, .ref h), (1, .int (nI p)), (2, .int (nI 1))] := hl
  refine lv_aload_n hx hb dX2_goOver_0 rfl (lv_at hl 0 rfl) ?_
  refine lv_iload_n hx hb dX2_goOver_1 rfl (lv_at hl 1 rfl) ?_
  -- c_pegOf_i
  refine pw_cVp (As := [.int (nI p)]) (rest := []) (wc := [(h, .inr (2, [.ref qr, .ref qp, .int (nI md), .int (r0), .int (r1), .int (r2), .int (r3)])), (qp, .inl (cP, 4, .inr (.inr (.inr (.inr (fun i => some (po i)))))))]) ⟨hx, hb, hml, hown, hts⟩ (c_pegOf_i l D cI cP cR h qr qp md r0 r1 r2 r3 po p (by omega)) (cwV 1 hts gX2_goOver_X2_pegOf rfl rfl rfl (by decide +kernel) ⟨Nat.le_of_ble_eq_true rfl, Nat.le_of_ble_eq_true rfl⟩) hK hP hD [0, 1] rfl (by decide) 0 rfl rfl rfl rfl hl.1 rfl (Nat.le_of_ble_eq_true rfl) dX2_goOver_2 ⟨Nat.zero_le _, Nat.zero_le _⟩ ?_
  refine lv_astore_n (lv' := [(3, .ref (po p)), (0, .ref h), (1, .int (nI p)), (2, .int (nI 1))]) hx hb dX2_goOver_5 rfl hl (by decide) rfl (fun ls hl => ?_)
  refine lv_aload_n hx hb dX2_goOver_6 rfl (lv_at hl 0 rfl) ?_
  refine lv_ifnonnull (tgt := 12) hx hb dX2_goOver_7 (by decide) ?_
  refine lv_aload_n hx hb dX2_goOver_12 rfl (lv_at hl 0 rfl) ?_
  refine va_getN (D := D) (ci := 0) (v := .ref (ro i)) (C := RX0) (T := TX0) (N := 6) hx hb hts hi_X2_goOver_0 hown hK.1 hP 2 rfl rfl 0 (by decide) (va_Nw.use rfl hNW.2.1) (fun _ h9 => h9) rfl dX2_goOver_13 ?_
  refine lv_astore (lv' := [(4, .ref (ro i)), (3, .ref (po p)), (0, .ref h), (1, .int (nI p)), (2, .int (nI 1))]) hx hb dX2_goOver_16 hl (by decide) rfl (fun ls hl => ?_)
  refine lv_aload hx hb dX2_goOver_18 (lv_at hl 0 rfl) ?_
  refine lv_ifnonnull (tgt := 26) hx hb dX2_goOver_20 (by decide) ?_
  refine lv_aload_n hx hb dX2_goOver_26 rfl (lv_at hl 1 rfl) ?_
  -- c_isOld_f
  refine pw_cVp (As := []) (rest := []) (wc := [(po p, .inr (0, [.ref (ro i), .int (pa), .int (ps), .int (ph), .int (pt), .int (pm)])), (ro i, .inr (1, [.ref a, .int (nI n), .int (ch)])), (a, .inl (cI, 60, .inl (f)))]) ⟨hx, hb, hml, hown, hts⟩ (c_isOld_f l D cI cP cR (po p) pa ps ph pt pm (ro i) a n ch f ho hw) (cwV 0 hts gX2_goOver_X0_isOld rfl rfl rfl (by decide +kernel) ⟨Nat.le_of_ble_eq_true rfl, Nat.le_of_ble_eq_true rfl⟩) hK hP hD [2, 3, 4] rfl (by decide) 0 rfl rfl rfl rfl hl.1 rfl (Nat.le_of_ble_eq_true rfl) dX2_goOver_27 ⟨Nat.zero_le _, Nat.zero_le _⟩ ?_
  refine lv_if_eq (tgt := 40) hx hb dX2_goOver_30 (by decide) (fun c => ?_) (fun c => absurd c (by decide))
  refine lv_iload_n hx hb dX2_goOver_40 rfl (lv_at hl 4 rfl) ?_
  refine lv_if_eq (tgt := 51) hx hb dX2_goOver_41 (by decide) (fun c => absurd c (by decide)) (fun c => ?_)
  refine lv_aload_n hx hb dX2_goOver_44 rfl (lv_at hl 1 rfl) ?_
  refine va_getN (D := D) (ci := 0) (v := .int (pa)) (C := RX0) (T := TX0) (N := 6) hx hb hts hi_X2_goOver_0 hown hK.1 hP 2 rfl rfl 1 (by decide) (va_Nw.use rfl hNW.2.2.1) (fun _ h9 => h9) rfl dX2_goOver_45 ?_
  refine lv_goto (tgt := 57) hx hb dX2_goOver_48 (by decide) ?_
  refine lv_istore (lv' := [(5, .int (pa)), (4, .ref (ro i)), (3, .ref (po p)), (0, .ref h), (1, .int (nI p)), (2, .int (nI 1))]) hx hb dX2_goOver_57 hl (by decide) rfl (fun ls hl => ?_)
  refine lv_aload hx hb dX2_goOver_59 (lv_at hl 1 rfl) ?_
  refine lv_iload hx hb dX2_goOver_61 (lv_at hl 0 rfl) ?_
  -- c_hasThingAt_f
  refine pw_cVp (As := [.int (pa)]) (rest := []) (wc := [(ro i, .inr (1, [.ref a, .int (nI n), .int (ch)])), (a, .inl (cI, 60, .inl (f)))]) ⟨hx, hb, hml, hown, hts⟩ (c_hasThingAt_f l D cI cP cR (ro i) a n ch f pa hq) (cwV 1 hts gX2_goOver_X1_hasThingAt rfl rfl rfl (by decide +kernel) ⟨Nat.le_of_ble_eq_true rfl, Nat.le_of_ble_eq_true rfl⟩) hK hP hD [3, 4] rfl (by decide) 0 rfl rfl rfl rfl hl.1 rfl (Nat.le_of_ble_eq_true rfl) dX2_goOver_63 ⟨Nat.zero_le _, Nat.zero_le _⟩ ?_
  refine lv_if_ne (tgt := 81) hx hb dX2_goOver_66 (by decide) (fun c => absurd c (by decide)) (fun c => ?_)
  refine lv_aload_n hx hb dX2_goOver_69 rfl (lv_at hl 2 rfl) ?_
  refine lv_iconst (v := nI 1) hx hb dX2_goOver_70 (by decide) ?_
  refine va_putN (D := D) (ci := 0) (v := .int (nI 1)) (ty := .boolean) (C := RX0) (T := TX0) (N := 6) hx hb hts hi_X2_goOver_0 tyX0 tyX0_ok nmX0 hown hK.1 hP hD hS 2 rfl rfl 5 (by decide) (va_Nw.use rfl hNW.2.2.2.2.2.1) (fun _ h9 => h9) rfl (by decide +kernel) rfl rfl (Nat.le_of_ble_eq_true rfl) dX2_goOver_71 (fun H locs hP hD hS => ?_)
  have hP : va_P D vwCl ([(h, .inr (2, [.ref qr, .ref qp, .int (nI md), .int (r0), .int (r1), .int (r2), .int (r3)])), (qp, .inl (cP, 4, .inr (.inr (.inr (.inr (fun i => some (po i))))))), (po p, .inr (0, [.ref (ro i), .int (pa), .int (ps), .int (ph), .int (pt), .int (nI 1)])), (ro i, .inr (1, [.ref a, .int (nI n), .int (ch)])), (a, .inl (cI, 60, .inl (f)))]) H := hP
  have hD : va_D A ([(h, .inr (2, [.ref qr, .ref qp, .int (nI md), .int (r0), .int (r1), .int (r2), .int (r3)])), (qp, .inl (cP, 4, .inr (.inr (.inr (.inr (fun i => some (po i))))))), (po p, .inr (0, [.ref (ro i), .int (pa), .int (ps), .int (ph), .int (pt), .int (nI 1)])), (ro i, .inr (1, [.ref a, .int (nI n), .int (ch)])), (a, .inl (cI, 60, .inl (f)))]) := hD
  refine lv_aload_n hx hb dX2_goOver_74 rfl (lv_at hl 3 rfl) ?_
  refine lv_bipush (v := -6) hx hb dX2_goOver_75 (by decide) ?_
  -- c_refused_e
  refine pw_cVm (As := [.int (-6)]) (rest := []) (wc := [(h, .inr (2, [.ref qr, .ref qp, .int (nI md), .int (r0), .int (r1), .int (r2), .int (r3)]))]) (wr := [(qp, .inl (cP, 4, .inr (.inr (.inr (.inr (fun i => some (po i))))))), (po p, .inr (0, [.ref (ro i), .int (pa), .int (ps), .int (ph), .int (pt), .int (nI 1)])), (ro i, .inr (1, [.ref a, .int (nI n), .int (ch)])), (a, .inl (cI, 60, .inl (f)))]) ⟨hx, hb, hml, hown, hts⟩ (c_refused_e l D cI cP cR h qr qp md r0 r1 r2 r3) (cwV 1 hts gX2_goOver_X2_refused rfl rfl rfl (by decide +kernel) ⟨Nat.le_of_ble_eq_true rfl, Nat.le_of_ble_eq_true rfl⟩) hK hP hD hS hA [0] [1, 2, 3, 4] rfl rfl (by decide) (by decide) (by decide) 0 rfl rfl rfl rfl hl.1 rfl (Nat.le_of_ble_eq_true rfl) dX2_goOver_77 ⟨Nat.zero_le _, Nat.zero_le _⟩ (fun v1 w1 H locs hq hP hD hS => ?_)
  rcases hq with ⟨rfl, rfl⟩
  have hP : va_P D vwCl ([(qp, .inl (cP, 4, .inr (.inr (.inr (.inr (fun i => some (po i))))))), (po p, .inr (0, [.ref (ro i), .int (pa), .int (ps), .int (ph), .int (pt), .int (nI 1)])), (ro i, .inr (1, [.ref a, .int (nI n), .int (ch)])), (a, .inl (cI, 60, .inl (f))), (h, .inr (2, [.ref qr, .ref qp, .int (nI md), .int (r0 + nI 1), .int (r1), .int (r2), .int (r3)]))]) H := hP
  have hD : va_D A ([(qp, .inl (cP, 4, .inr (.inr (.inr (.inr (fun i => some (po i))))))), (po p, .inr (0, [.ref (ro i), .int (pa), .int (ps), .int (ph), .int (pt), .int (nI 1)])), (ro i, .inr (1, [.ref a, .int (nI n), .int (ch)])), (a, .inl (cI, 60, .inl (f))), (h, .inr (2, [.ref qr, .ref qp, .int (nI md), .int (r0 + nI 1), .int (r1), .int (r2), .int (r3)]))]) := hD
  refine W.eq (g2 := F0 m 80 ls [.int (-6)]) rfl ?_
  have hP := hP.sub (ws' := [(h, .inr (2, [.ref qr, .ref qp, .int (nI md), .int (r0 + nI 1), .int (r1), .int (r2), .int (r3)])), (qp, .inl (cP, 4, .inr (.inr (.inr (.inr (fun i => some (po i))))))), (po p, .inr (0, [.ref (ro i), .int (pa), .int (ps), .int (ph), .int (pt), .int (nI 1)])), (ro i, .inr (1, [.ref a, .int (nI n), .int (ch)])), (a, .inl (cI, 60, .inl (f)))]) [4, 0, 1, 2, 3] rfl
  have hD := hD.sub (ws' := [(h, .inr (2, [.ref qr, .ref qp, .int (nI md), .int (r0 + nI 1), .int (r1), .int (r2), .int (r3)])), (qp, .inl (cP, 4, .inr (.inr (.inr (.inr (fun i => some (po i))))))), (po p, .inr (0, [.ref (ro i), .int (pa), .int (ps), .int (ph), .int (pt), .int (nI 1)])), (ro i, .inr (1, [.ref a, .int (nI n), .int (ch)])), (a, .inl (cI, 60, .inl (f)))]) [4, 0, 1, 2, 3] (by decide) rfl
  exact pw_iret hx hb hr (rfl) hlocks dX2_goOver_80 hS hP hD (⟨rfl, rfl⟩)
set_option maxHeartbeats 4000000 in
set_option maxRecDepth 100000 in
theorem c_go_e0 (l : Launch) (D : va_G) (cI cP cR : ClassId) (h qr qp md : Nat) (r0 r1 r2 r3 : Int32) (po ro : Nat → Nat) (p i a n : Nat) (ch : Int32) (f : Nat → Int32) (pa ps ph pt pm : Int32) (hp4 : p < 4) (hi : i < 3) (hn : n ≤ 60) (ho : ps = ch) (hw : 0 ≤ pa ∧ pa ≤ nI n) (hq : ¬ (0 ≤ pa - nI 1 ∧ pa - nI 1 < nI n)) : pw_Mm l yX2_goOver wsX2_goOver ({ frames := 2, cells := 0, slots := 0, locals := 45 } : Room) D cI cP cR [.ref h, .int (nI p), .int (nI 0)] ([(h, .inr (2, [.ref qr, .ref qp, .int (nI md), .int (r0), .int (r1), .int (r2), .int (r3)])), (qp, .inl (cP, 4, .inr (.inr (.inr (.inr (fun i => some (po i))))))), (po p, .inr (0, [.ref (ro i), .int (pa), .int (ps), .int (ph), .int (pt), .int (pm)])), (ro i, .inr (1, [.ref a, .int (nI n), .int (ch)])), (a, .inl (cI, 60, .inl (f)))]) (fun v w => v = some (.int (-6)) ∧ w = [(h, .inr (2, [.ref qr, .ref qp, .int (nI md), .int (r0 + nI 1), .int (r1), .int (r2), .int (r3)])), (qp, .inl (cP, 4, .inr (.inr (.inr (.inr (fun i => some (po i))))))), (po p, .inr (0, [.ref (ro i), .int (pa), .int (ps), .int (ph), .int (pt), .int (nI 1)])), (ro i, .inr (1, [.ref a, .int (nI n), .int (ch)])), (a, .inl (cI, 60, .inl (f)))]) := by
  refine pw_ofm (cc := cX2_goOver) (maxL := 6) (ret := (some .int)) (own := RX2) (by decide +kernel) rfl rfl (Nat.le_of_ble_eq_true rfl) ?_
  intro p_ e_ s m bel meth cd A hE hK hP hD hA hS ls hl
  obtain ⟨hx, hb, hr, hml, hown, hts, hlocks⟩ := hE
  have hNW := hK.2
  have hl : lv_has ls 6 [(0, .ref h), (1, .int (nI p)), (2, .int (nI 0))] := hl
  refine lv_aload_n hx hb dX2_goOver_0 rfl (lv_at hl 0 rfl) ?_
  refine lv_iload_n hx hb dX2_goOver_1 rfl (lv_at hl 1 rfl) ?_
  -- c_pegOf_i
  refine pw_cVp (As := [.int (nI p)]) (rest := []) (wc := [(h, .inr (2, [.ref qr, .ref qp, .int (nI md), .int (r0), .int (r1), .int (r2), .int (r3)])), (qp, .inl (cP, 4, .inr (.inr (.inr (.inr (fun i => some (po i)))))))]) ⟨hx, hb, hml, hown, hts⟩ (c_pegOf_i l D cI cP cR h qr qp md r0 r1 r2 r3 po p (by omega)) (cwV 1 hts gX2_goOver_X2_pegOf rfl rfl rfl (by decide +kernel) ⟨Nat.le_of_ble_eq_true rfl, Nat.le_of_ble_eq_true rfl⟩) hK hP hD [0, 1] rfl (by decide) 0 rfl rfl rfl rfl hl.1 rfl (Nat.le_of_ble_eq_true rfl) dX2_goOver_2 ⟨Nat.zero_le _, Nat.zero_le _⟩ ?_
  refine lv_astore_n (lv' := [(3, .ref (po p)), (0, .ref h), (1, .int (nI p)), (2, .int (nI 0))]) hx hb dX2_goOver_5 rfl hl (by decide) rfl (fun ls hl => ?_)
  refine lv_aload_n hx hb dX2_goOver_6 rfl (lv_at hl 0 rfl) ?_
  refine lv_ifnonnull (tgt := 12) hx hb dX2_goOver_7 (by decide) ?_
  refine lv_aload_n hx hb dX2_goOver_12 rfl (lv_at hl 0 rfl) ?_
  refine va_getN (D := D) (ci := 0) (v := .ref (ro i)) (C := RX0) (T := TX0) (N := 6) hx hb hts hi_X2_goOver_0 hown hK.1 hP 2 rfl rfl 0 (by decide) (va_Nw.use rfl hNW.2.1) (fun _ h9 => h9) rfl dX2_goOver_13 ?_
  refine lv_astore (lv' := [(4, .ref (ro i)), (3, .ref (po p)), (0, .ref h), (1, .int (nI p)), (2, .int (nI 0))]) hx hb dX2_goOver_16 hl (by decide) rfl (fun ls hl => ?_)
  refine lv_aload hx hb dX2_goOver_18 (lv_at hl 0 rfl) ?_
  refine lv_ifnonnull (tgt := 26) hx hb dX2_goOver_20 (by decide) ?_
  refine lv_aload_n hx hb dX2_goOver_26 rfl (lv_at hl 1 rfl) ?_
  -- c_isOld_f
  refine pw_cVp (As := []) (rest := []) (wc := [(po p, .inr (0, [.ref (ro i), .int (pa), .int (ps), .int (ph), .int (pt), .int (pm)])), (ro i, .inr (1, [.ref a, .int (nI n), .int (ch)])), (a, .inl (cI, 60, .inl (f)))]) ⟨hx, hb, hml, hown, hts⟩ (c_isOld_f l D cI cP cR (po p) pa ps ph pt pm (ro i) a n ch f ho hw) (cwV 0 hts gX2_goOver_X0_isOld rfl rfl rfl (by decide +kernel) ⟨Nat.le_of_ble_eq_true rfl, Nat.le_of_ble_eq_true rfl⟩) hK hP hD [2, 3, 4] rfl (by decide) 0 rfl rfl rfl rfl hl.1 rfl (Nat.le_of_ble_eq_true rfl) dX2_goOver_27 ⟨Nat.zero_le _, Nat.zero_le _⟩ ?_
  refine lv_if_eq (tgt := 40) hx hb dX2_goOver_30 (by decide) (fun c => ?_) (fun c => absurd c (by decide))
  refine lv_iload_n hx hb dX2_goOver_40 rfl (lv_at hl 4 rfl) ?_
  refine lv_if_eq (tgt := 51) hx hb dX2_goOver_41 (by decide) (fun c => ?_) (fun c => absurd c (by decide))
  refine lv_aload_n hx hb dX2_goOver_51 rfl (lv_at hl 1 rfl) ?_
  refine va_getN (D := D) (ci := 0) (v := .int (pa)) (C := RX0) (T := TX0) (N := 6) hx hb hts hi_X2_goOver_0 hown hK.1 hP 2 rfl rfl 1 (by decide) (va_Nw.use rfl hNW.2.2.1) (fun _ h9 => h9) rfl dX2_goOver_52 ?_
  refine lv_iconst (v := nI 1) hx hb dX2_goOver_55 (by decide) ?_
  refine lv_isub hx hb dX2_goOver_56 ?_
  refine lv_istore (lv' := [(5, .int (pa - (nI 1))), (4, .ref (ro i)), (3, .ref (po p)), (0, .ref h), (1, .int (nI p)), (2, .int (nI 0))]) hx hb dX2_goOver_57 hl (by decide) rfl (fun ls hl => ?_)
  refine lv_aload hx hb dX2_goOver_59 (lv_at hl 1 rfl) ?_
  refine lv_iload hx hb dX2_goOver_61 (lv_at hl 0 rfl) ?_
  -- c_hasThingAt_f
  refine pw_cVp (As := [.int (pa - (nI 1))]) (rest := []) (wc := [(ro i, .inr (1, [.ref a, .int (nI n), .int (ch)])), (a, .inl (cI, 60, .inl (f)))]) ⟨hx, hb, hml, hown, hts⟩ (c_hasThingAt_f l D cI cP cR (ro i) a n ch f (pa - (nI 1)) hq) (cwV 1 hts gX2_goOver_X1_hasThingAt rfl rfl rfl (by decide +kernel) ⟨Nat.le_of_ble_eq_true rfl, Nat.le_of_ble_eq_true rfl⟩) hK hP hD [3, 4] rfl (by decide) 0 rfl rfl rfl rfl hl.1 rfl (Nat.le_of_ble_eq_true rfl) dX2_goOver_63 ⟨Nat.zero_le _, Nat.zero_le _⟩ ?_
  refine lv_if_ne (tgt := 81) hx hb dX2_goOver_66 (by decide) (fun c => absurd c (by decide)) (fun c => ?_)
  refine lv_aload_n hx hb dX2_goOver_69 rfl (lv_at hl 2 rfl) ?_
  refine lv_iconst (v := nI 1) hx hb dX2_goOver_70 (by decide) ?_
  refine va_putN (D := D) (ci := 0) (v := .int (nI 1)) (ty := .boolean) (C := RX0) (T := TX0) (N := 6) hx hb hts hi_X2_goOver_0 tyX0 tyX0_ok nmX0 hown hK.1 hP hD hS 2 rfl rfl 5 (by decide) (va_Nw.use rfl hNW.2.2.2.2.2.1) (fun _ h9 => h9) rfl (by decide +kernel) rfl rfl (Nat.le_of_ble_eq_true rfl) dX2_goOver_71 (fun H locs hP hD hS => ?_)
  have hP : va_P D vwCl ([(h, .inr (2, [.ref qr, .ref qp, .int (nI md), .int (r0), .int (r1), .int (r2), .int (r3)])), (qp, .inl (cP, 4, .inr (.inr (.inr (.inr (fun i => some (po i))))))), (po p, .inr (0, [.ref (ro i), .int (pa), .int (ps), .int (ph), .int (pt), .int (nI 1)])), (ro i, .inr (1, [.ref a, .int (nI n), .int (ch)])), (a, .inl (cI, 60, .inl (f)))]) H := hP
  have hD : va_D A ([(h, .inr (2, [.ref qr, .ref qp, .int (nI md), .int (r0), .int (r1), .int (r2), .int (r3)])), (qp, .inl (cP, 4, .inr (.inr (.inr (.inr (fun i => some (po i))))))), (po p, .inr (0, [.ref (ro i), .int (pa), .int (ps), .int (ph), .int (pt), .int (nI 1)])), (ro i, .inr (1, [.ref a, .int (nI n), .int (ch)])), (a, .inl (cI, 60, .inl (f)))]) := hD
  refine lv_aload_n hx hb dX2_goOver_74 rfl (lv_at hl 3 rfl) ?_
  refine lv_bipush (v := -6) hx hb dX2_goOver_75 (by decide) ?_
  -- c_refused_e
  refine pw_cVm (As := [.int (-6)]) (rest := []) (wc := [(h, .inr (2, [.ref qr, .ref qp, .int (nI md), .int (r0), .int (r1), .int (r2), .int (r3)]))]) (wr := [(qp, .inl (cP, 4, .inr (.inr (.inr (.inr (fun i => some (po i))))))), (po p, .inr (0, [.ref (ro i), .int (pa), .int (ps), .int (ph), .int (pt), .int (nI 1)])), (ro i, .inr (1, [.ref a, .int (nI n), .int (ch)])), (a, .inl (cI, 60, .inl (f)))]) ⟨hx, hb, hml, hown, hts⟩ (c_refused_e l D cI cP cR h qr qp md r0 r1 r2 r3) (cwV 1 hts gX2_goOver_X2_refused rfl rfl rfl (by decide +kernel) ⟨Nat.le_of_ble_eq_true rfl, Nat.le_of_ble_eq_true rfl⟩) hK hP hD hS hA [0] [1, 2, 3, 4] rfl rfl (by decide) (by decide) (by decide) 0 rfl rfl rfl rfl hl.1 rfl (Nat.le_of_ble_eq_true rfl) dX2_goOver_77 ⟨Nat.zero_le _, Nat.zero_le _⟩ (fun v1 w1 H locs hq hP hD hS => ?_)
  rcases hq with ⟨rfl, rfl⟩
  have hP : va_P D vwCl ([(qp, .inl (cP, 4, .inr (.inr (.inr (.inr (fun i => some (po i))))))), (po p, .inr (0, [.ref (ro i), .int (pa), .int (ps), .int (ph), .int (pt), .int (nI 1)])), (ro i, .inr (1, [.ref a, .int (nI n), .int (ch)])), (a, .inl (cI, 60, .inl (f))), (h, .inr (2, [.ref qr, .ref qp, .int (nI md), .int (r0 + nI 1), .int (r1), .int (r2), .int (r3)]))]) H := hP
  have hD : va_D A ([(qp, .inl (cP, 4, .inr (.inr (.inr (.inr (fun i => some (po i))))))), (po p, .inr (0, [.ref (ro i), .int (pa), .int (ps), .int (ph), .int (pt), .int (nI 1)])), (ro i, .inr (1, [.ref a, .int (nI n), .int (ch)])), (a, .inl (cI, 60, .inl (f))), (h, .inr (2, [.ref qr, .ref qp, .int (nI md), .int (r0 + nI 1), .int (r1), .int (r2), .int (r3)]))]) := hD
  refine W.eq (g2 := F0 m 80 ls [.int (-6)]) rfl ?_
  have hP := hP.sub (ws' := [(h, .inr (2, [.ref qr, .ref qp, .int (nI md), .int (r0 + nI 1), .int (r1), .int (r2), .int (r3)])), (qp, .inl (cP, 4, .inr (.inr (.inr (.inr (fun i => some (po i))))))), (po p, .inr (0, [.ref (ro i), .int (pa), .int (ps), .int (ph), .int (pt), .int (nI 1)])), (ro i, .inr (1, [.ref a, .int (nI n), .int (ch)])), (a, .inl (cI, 60, .inl (f)))]) [4, 0, 1, 2, 3] rfl
  have hD := hD.sub (ws' := [(h, .inr (2, [.ref qr, .ref qp, .int (nI md), .int (r0 + nI 1), .int (r1), .int (r2), .int (r3)])), (qp, .inl (cP, 4, .inr (.inr (.inr (.inr (fun i => some (po i))))))), (po p, .inr (0, [.ref (ro i), .int (pa), .int (ps), .int (ph), .int (pt), .int (nI 1)])), (ro i, .inr (1, [.ref a, .int (nI n), .int (ch)])), (a, .inl (cI, 60, .inl (f)))]) [4, 0, 1, 2, 3] (by decide) rfl
  exact pw_iret hx hb hr (rfl) hlocks dX2_goOver_80 hS hP hD (⟨rfl, rfl⟩)
set_option maxHeartbeats 4000000 in
set_option maxRecDepth 100000 in
theorem c_go_1 (l : Launch) (D : va_G) (cI cP cR : ClassId) (h qr qp md : Nat) (r0 r1 r2 r3 : Int32) (po ro : Nat → Nat) (p i a n : Nat) (ch : Int32) (f : Nat → Int32) (pa ps ph pt pm : Int32) (hp4 : p < 4) (hi : i < 3) (hn : n ≤ 60) (ho : ps = ch) (q : Nat) (hq : q < n) : pw_Mm l yX2_goOver wsX2_goOver ({ frames := 2, cells := 0, slots := 0, locals := 45 } : Room) D cI cP cR [.ref h, .int (nI p), .int (nI 1)] ([(h, .inr (2, [.ref qr, .ref qp, .int (nI md), .int (r0), .int (r1), .int (r2), .int (r3)])), (qp, .inl (cP, 4, .inr (.inr (.inr (.inr (fun i => some (po i))))))), (po p, .inr (0, [.ref (ro i), .int (nI q), .int (ps), .int (ph), .int (pt), .int (pm)])), (ro i, .inr (1, [.ref a, .int (nI n), .int (ch)])), (a, .inl (cI, 60, .inl (f)))]) (fun v w => v = some (.int (f q)) ∧ w = [(h, .inr (2, [.ref qr, .ref qp, .int (nI md), .int (r0), .int (r1), .int (r2), .int (r3)])), (qp, .inl (cP, 4, .inr (.inr (.inr (.inr (fun i => some (po i))))))), (po p, .inr (0, [.ref (ro i), .int (nI (q + 1)), .int (ps), .int (nI q), .int (f q), .int (nI 0)])), (ro i, .inr (1, [.ref a, .int (nI n), .int (ch)])), (a, .inl (cI, 60, .inl (f)))]) := by
  refine pw_ofm (cc := cX2_goOver) (maxL := 6) (ret := (some .int)) (own := RX2) (by decide +kernel) rfl rfl (Nat.le_of_ble_eq_true rfl) ?_
  intro p_ e_ s m bel meth cd A hE hK hP hD hA hS ls hl
  obtain ⟨hx, hb, hr, hml, hown, hts, hlocks⟩ := hE
  have hNW := hK.2
  have hl : lv_has ls 6 [(0, .ref h), (1, .int (nI p)), (2, .int (nI 1))] := hl
  refine lv_aload_n hx hb dX2_goOver_0 rfl (lv_at hl 0 rfl) ?_
  refine lv_iload_n hx hb dX2_goOver_1 rfl (lv_at hl 1 rfl) ?_
  -- c_pegOf_i
  refine pw_cVp (As := [.int (nI p)]) (rest := []) (wc := [(h, .inr (2, [.ref qr, .ref qp, .int (nI md), .int (r0), .int (r1), .int (r2), .int (r3)])), (qp, .inl (cP, 4, .inr (.inr (.inr (.inr (fun i => some (po i)))))))]) ⟨hx, hb, hml, hown, hts⟩ (c_pegOf_i l D cI cP cR h qr qp md r0 r1 r2 r3 po p (by omega)) (cwV 1 hts gX2_goOver_X2_pegOf rfl rfl rfl (by decide +kernel) ⟨Nat.le_of_ble_eq_true rfl, Nat.le_of_ble_eq_true rfl⟩) hK hP hD [0, 1] rfl (by decide) 0 rfl rfl rfl rfl hl.1 rfl (Nat.le_of_ble_eq_true rfl) dX2_goOver_2 ⟨Nat.zero_le _, Nat.zero_le _⟩ ?_
  refine lv_astore_n (lv' := [(3, .ref (po p)), (0, .ref h), (1, .int (nI p)), (2, .int (nI 1))]) hx hb dX2_goOver_5 rfl hl (by decide) rfl (fun ls hl => ?_)
  refine lv_aload_n hx hb dX2_goOver_6 rfl (lv_at hl 0 rfl) ?_
  refine lv_ifnonnull (tgt := 12) hx hb dX2_goOver_7 (by decide) ?_
  refine lv_aload_n hx hb dX2_goOver_12 rfl (lv_at hl 0 rfl) ?_
  refine va_getN (D := D) (ci := 0) (v := .ref (ro i)) (C := RX0) (T := TX0) (N := 6) hx hb hts hi_X2_goOver_0 hown hK.1 hP 2 rfl rfl 0 (by decide) (va_Nw.use rfl hNW.2.1) (fun _ h9 => h9) rfl dX2_goOver_13 ?_
  refine lv_astore (lv' := [(4, .ref (ro i)), (3, .ref (po p)), (0, .ref h), (1, .int (nI p)), (2, .int (nI 1))]) hx hb dX2_goOver_16 hl (by decide) rfl (fun ls hl => ?_)
  refine lv_aload hx hb dX2_goOver_18 (lv_at hl 0 rfl) ?_
  refine lv_ifnonnull (tgt := 26) hx hb dX2_goOver_20 (by decide) ?_
  refine lv_aload_n hx hb dX2_goOver_26 rfl (lv_at hl 1 rfl) ?_
  -- c_isOld_f
  refine pw_cVp (As := []) (rest := []) (wc := [(po p, .inr (0, [.ref (ro i), .int (nI q), .int (ps), .int (ph), .int (pt), .int (pm)])), (ro i, .inr (1, [.ref a, .int (nI n), .int (ch)])), (a, .inl (cI, 60, .inl (f)))]) ⟨hx, hb, hml, hown, hts⟩ (c_isOld_f l D cI cP cR (po p) (nI q) ps ph pt pm (ro i) a n ch f ho ⟨pw_ge0 (by omega), (pw_leN (by omega) (by omega)).mpr (by omega)⟩) (cwV 0 hts gX2_goOver_X0_isOld rfl rfl rfl (by decide +kernel) ⟨Nat.le_of_ble_eq_true rfl, Nat.le_of_ble_eq_true rfl⟩) hK hP hD [2, 3, 4] rfl (by decide) 0 rfl rfl rfl rfl hl.1 rfl (Nat.le_of_ble_eq_true rfl) dX2_goOver_27 ⟨Nat.zero_le _, Nat.zero_le _⟩ ?_
  refine lv_if_eq (tgt := 40) hx hb dX2_goOver_30 (by decide) (fun c => ?_) (fun c => absurd c (by decide))
  refine lv_iload_n hx hb dX2_goOver_40 rfl (lv_at hl 4 rfl) ?_
  refine lv_if_eq (tgt := 51) hx hb dX2_goOver_41 (by decide) (fun c => absurd c (by decide)) (fun c => ?_)
  refine lv_aload_n hx hb dX2_goOver_44 rfl (lv_at hl 1 rfl) ?_
  refine va_getN (D := D) (ci := 0) (v := .int (nI q)) (C := RX0) (T := TX0) (N := 6) hx hb hts hi_X2_goOver_0 hown hK.1 hP 2 rfl rfl 1 (by decide) (va_Nw.use rfl hNW.2.2.1) (fun _ h9 => h9) rfl dX2_goOver_45 ?_
  refine lv_goto (tgt := 57) hx hb dX2_goOver_48 (by decide) ?_
  refine lv_istore (lv' := [(5, .int (nI q)), (4, .ref (ro i)), (3, .ref (po p)), (0, .ref h), (1, .int (nI p)), (2, .int (nI 1))]) hx hb dX2_goOver_57 hl (by decide) rfl (fun ls hl => ?_)
  refine lv_aload hx hb dX2_goOver_59 (lv_at hl 1 rfl) ?_
  refine lv_iload hx hb dX2_goOver_61 (lv_at hl 0 rfl) ?_
  -- c_hasThingAt_t
  refine pw_cVp (As := [.int (nI q)]) (rest := []) (wc := [(ro i, .inr (1, [.ref a, .int (nI n), .int (ch)])), (a, .inl (cI, 60, .inl (f)))]) ⟨hx, hb, hml, hown, hts⟩ (c_hasThingAt_t l D cI cP cR (ro i) a n ch f q (by omega) (by omega)) (cwV 1 hts gX2_goOver_X1_hasThingAt rfl rfl rfl (by decide +kernel) ⟨Nat.le_of_ble_eq_true rfl, Nat.le_of_ble_eq_true rfl⟩) hK hP hD [3, 4] rfl (by decide) 0 rfl rfl rfl rfl hl.1 rfl (Nat.le_of_ble_eq_true rfl) dX2_goOver_63 ⟨Nat.zero_le _, Nat.zero_le _⟩ ?_
  refine lv_if_ne (tgt := 81) hx hb dX2_goOver_66 (by decide) (fun c => ?_) (fun c => absurd c (by decide))
  refine lv_aload_n hx hb dX2_goOver_81 rfl (lv_at hl 2 rfl) ?_
  refine lv_iload_n hx hb dX2_goOver_82 rfl (lv_at hl 5 rfl) ?_
  refine lv_if_eq (tgt := 93) hx hb dX2_goOver_83 (by decide) (fun c => absurd c (by decide)) (fun c => ?_)
  refine lv_iload hx hb dX2_goOver_86 (lv_at hl 0 rfl) ?_
  refine lv_iconst (v := nI 1) hx hb dX2_goOver_88 (by decide) ?_
  refine pw_iadd hx hb dX2_goOver_89 ?_
  refine lv_goto (tgt := 95) hx hb dX2_goOver_90 (by decide) ?_
  refine va_putN (D := D) (ci := 0) (v := .int (nI (q + 1))) (ty := .int) (C := RX0) (T := TX0) (N := 6) hx hb hts hi_X2_goOver_0 tyX0 tyX0_ok nmX0 hown hK.1 hP hD hS 2 rfl rfl 1 (by decide) (va_Nw.use rfl hNW.2.2.1) (fun _ h9 => h9) rfl (by decide +kernel) rfl rfl (Nat.le_of_ble_eq_true rfl) dX2_goOver_95 (fun H locs hP hD hS => ?_)
  have hP : va_P D vwCl ([(h, .inr (2, [.ref qr, .ref qp, .int (nI md), .int (r0), .int (r1), .int (r2), .int (r3)])), (qp, .inl (cP, 4, .inr (.inr (.inr (.inr (fun i => some (po i))))))), (po p, .inr (0, [.ref (ro i), .int (nI (q + 1)), .int (ps), .int (ph), .int (pt), .int (pm)])), (ro i, .inr (1, [.ref a, .int (nI n), .int (ch)])), (a, .inl (cI, 60, .inl (f)))]) H := hP
  have hD : va_D A ([(h, .inr (2, [.ref qr, .ref qp, .int (nI md), .int (r0), .int (r1), .int (r2), .int (r3)])), (qp, .inl (cP, 4, .inr (.inr (.inr (.inr (fun i => some (po i))))))), (po p, .inr (0, [.ref (ro i), .int (nI (q + 1)), .int (ps), .int (ph), .int (pt), .int (pm)])), (ro i, .inr (1, [.ref a, .int (nI n), .int (ch)])), (a, .inl (cI, 60, .inl (f)))]) := hD
  refine lv_aload_n hx hb dX2_goOver_98 rfl (lv_at hl 2 rfl) ?_
  refine lv_iload hx hb dX2_goOver_99 (lv_at hl 0 rfl) ?_
  refine lv_aload hx hb dX2_goOver_101 (lv_at hl 1 rfl) ?_
  refine lv_iload hx hb dX2_goOver_103 (lv_at hl 0 rfl) ?_
  -- c_thingAt
  refine pw_cVp (As := [.int (nI q)]) (rest := [.int (nI q), .ref (po p)]) (wc := [(ro i, .inr (1, [.ref a, .int (nI n), .int (ch)])), (a, .inl (cI, 60, .inl (f)))]) ⟨hx, hb, hml, hown, hts⟩ (c_thingAt l D cI cP cR (ro i) a n ch f q (by omega)) (cwV 1 hts gX2_goOver_X1_thingAt rfl rfl rfl (by decide +kernel) ⟨Nat.le_of_ble_eq_true rfl, Nat.le_of_ble_eq_true rfl⟩) hK hP hD [3, 4] rfl (by decide) 0 rfl rfl rfl rfl hl.1 rfl (Nat.le_of_ble_eq_true rfl) dX2_goOver_105 ⟨Nat.zero_le _, Nat.zero_le _⟩ ?_
  -- c_hold
  refine pw_cVm (As := [.int (nI q), .int (f q)]) (rest := []) (wc := [(po p, .inr (0, [.ref (ro i), .int (nI (q + 1)), .int (ps), .int (ph), .int (pt), .int (pm)]))]) (wr := [(h, .inr (2, [.ref qr, .ref qp, .int (nI md), .int (r0), .int (r1), .int (r2), .int (r3)])), (qp, .inl (cP, 4, .inr (.inr (.inr (.inr (fun i => some (po i))))))), (ro i, .inr (1, [.ref a, .int (nI n), .int (ch)])), (a, .inl (cI, 60, .inl (f)))]) ⟨hx, hb, hml, hown, hts⟩ (c_hold l D cI cP cR (po p) (nI (q + 1)) ps ph pt pm (some (ro i)) (nI q) (f q)) (cwV 2 hts gX2_goOver_X0_hold rfl rfl rfl (by decide +kernel) ⟨Nat.le_of_ble_eq_true rfl, Nat.le_of_ble_eq_true rfl⟩) hK hP hD hS hA [2] [0, 1, 3, 4] rfl rfl (by decide) (by decide) (by decide) 0 rfl rfl rfl rfl hl.1 rfl (Nat.le_of_ble_eq_true rfl) dX2_goOver_108 ⟨Nat.zero_le _, Nat.zero_le _⟩ (fun v1 w1 H locs hq hP hD hS => ?_)
  rcases hq with ⟨rfl, rfl⟩
  have hP : va_P D vwCl ([(h, .inr (2, [.ref qr, .ref qp, .int (nI md), .int (r0), .int (r1), .int (r2), .int (r3)])), (qp, .inl (cP, 4, .inr (.inr (.inr (.inr (fun i => some (po i))))))), (ro i, .inr (1, [.ref a, .int (nI n), .int (ch)])), (a, .inl (cI, 60, .inl (f))), (po p, .inr (0, [.ref (ro i), .int (nI (q + 1)), .int (ps), .int (nI q), .int (f q), .int (nI 0)]))]) H := hP
  have hD : va_D A ([(h, .inr (2, [.ref qr, .ref qp, .int (nI md), .int (r0), .int (r1), .int (r2), .int (r3)])), (qp, .inl (cP, 4, .inr (.inr (.inr (.inr (fun i => some (po i))))))), (ro i, .inr (1, [.ref a, .int (nI n), .int (ch)])), (a, .inl (cI, 60, .inl (f))), (po p, .inr (0, [.ref (ro i), .int (nI (q + 1)), .int (ps), .int (nI q), .int (f q), .int (nI 0)]))]) := hD
  refine W.eq (g2 := F0 m 111 ls [.int (f q)]) rfl ?_
  have hP := hP.sub (ws' := [(h, .inr (2, [.ref qr, .ref qp, .int (nI md), .int (r0), .int (r1), .int (r2), .int (r3)])), (qp, .inl (cP, 4, .inr (.inr (.inr (.inr (fun i => some (po i))))))), (po p, .inr (0, [.ref (ro i), .int (nI (q + 1)), .int (ps), .int (nI q), .int (f q), .int (nI 0)])), (ro i, .inr (1, [.ref a, .int (nI n), .int (ch)])), (a, .inl (cI, 60, .inl (f)))]) [0, 1, 4, 2, 3] rfl
  have hD := hD.sub (ws' := [(h, .inr (2, [.ref qr, .ref qp, .int (nI md), .int (r0), .int (r1), .int (r2), .int (r3)])), (qp, .inl (cP, 4, .inr (.inr (.inr (.inr (fun i => some (po i))))))), (po p, .inr (0, [.ref (ro i), .int (nI (q + 1)), .int (ps), .int (nI q), .int (f q), .int (nI 0)])), (ro i, .inr (1, [.ref a, .int (nI n), .int (ch)])), (a, .inl (cI, 60, .inl (f)))]) [0, 1, 4, 2, 3] (by decide) rfl
  exact pw_iret hx hb hr (rfl) hlocks dX2_goOver_111 hS hP hD (⟨rfl, rfl⟩)
set_option maxHeartbeats 4000000 in
set_option maxRecDepth 100000 in
theorem c_go_0 (l : Launch) (D : va_G) (cI cP cR : ClassId) (h qr qp md : Nat) (r0 r1 r2 r3 : Int32) (po ro : Nat → Nat) (p i a n : Nat) (ch : Int32) (f : Nat → Int32) (pa ps ph pt pm : Int32) (hp4 : p < 4) (hi : i < 3) (hn : n ≤ 60) (ho : ps = ch) (q : Nat) (hq : q < n) : pw_Mm l yX2_goOver wsX2_goOver ({ frames := 2, cells := 0, slots := 0, locals := 45 } : Room) D cI cP cR [.ref h, .int (nI p), .int (nI 0)] ([(h, .inr (2, [.ref qr, .ref qp, .int (nI md), .int (r0), .int (r1), .int (r2), .int (r3)])), (qp, .inl (cP, 4, .inr (.inr (.inr (.inr (fun i => some (po i))))))), (po p, .inr (0, [.ref (ro i), .int (nI (q + 1)), .int (ps), .int (ph), .int (pt), .int (pm)])), (ro i, .inr (1, [.ref a, .int (nI n), .int (ch)])), (a, .inl (cI, 60, .inl (f)))]) (fun v w => v = some (.int (f q)) ∧ w = [(h, .inr (2, [.ref qr, .ref qp, .int (nI md), .int (r0), .int (r1), .int (r2), .int (r3)])), (qp, .inl (cP, 4, .inr (.inr (.inr (.inr (fun i => some (po i))))))), (po p, .inr (0, [.ref (ro i), .int (nI q), .int (ps), .int (nI q), .int (f q), .int (nI 0)])), (ro i, .inr (1, [.ref a, .int (nI n), .int (ch)])), (a, .inl (cI, 60, .inl (f)))]) := by
  refine pw_ofm (cc := cX2_goOver) (maxL := 6) (ret := (some .int)) (own := RX2) (by decide +kernel) rfl rfl (Nat.le_of_ble_eq_true rfl) ?_
  intro p_ e_ s m bel meth cd A hE hK hP hD hA hS ls hl
  obtain ⟨hx, hb, hr, hml, hown, hts, hlocks⟩ := hE
  have hNW := hK.2
  have hl : lv_has ls 6 [(0, .ref h), (1, .int (nI p)), (2, .int (nI 0))] := hl
  refine lv_aload_n hx hb dX2_goOver_0 rfl (lv_at hl 0 rfl) ?_
  refine lv_iload_n hx hb dX2_goOver_1 rfl (lv_at hl 1 rfl) ?_
  -- c_pegOf_i
  refine pw_cVp (As := [.int (nI p)]) (rest := []) (wc := [(h, .inr (2, [.ref qr, .ref qp, .int (nI md), .int (r0), .int (r1), .int (r2), .int (r3)])), (qp, .inl (cP, 4, .inr (.inr (.inr (.inr (fun i => some (po i)))))))]) ⟨hx, hb, hml, hown, hts⟩ (c_pegOf_i l D cI cP cR h qr qp md r0 r1 r2 r3 po p (by omega)) (cwV 1 hts gX2_goOver_X2_pegOf rfl rfl rfl (by decide +kernel) ⟨Nat.le_of_ble_eq_true rfl, Nat.le_of_ble_eq_true rfl⟩) hK hP hD [0, 1] rfl (by decide) 0 rfl rfl rfl rfl hl.1 rfl (Nat.le_of_ble_eq_true rfl) dX2_goOver_2 ⟨Nat.zero_le _, Nat.zero_le _⟩ ?_
  refine lv_astore_n (lv' := [(3, .ref (po p)), (0, .ref h), (1, .int (nI p)), (2, .int (nI 0))]) hx hb dX2_goOver_5 rfl hl (by decide) rfl (fun ls hl => ?_)
  refine lv_aload_n hx hb dX2_goOver_6 rfl (lv_at hl 0 rfl) ?_
  refine lv_ifnonnull (tgt := 12) hx hb dX2_goOver_7 (by decide) ?_
  refine lv_aload_n hx hb dX2_goOver_12 rfl (lv_at hl 0 rfl) ?_
  refine va_getN (D := D) (ci := 0) (v := .ref (ro i)) (C := RX0) (T := TX0) (N := 6) hx hb hts hi_X2_goOver_0 hown hK.1 hP 2 rfl rfl 0 (by decide) (va_Nw.use rfl hNW.2.1) (fun _ h9 => h9) rfl dX2_goOver_13 ?_
  refine lv_astore (lv' := [(4, .ref (ro i)), (3, .ref (po p)), (0, .ref h), (1, .int (nI p)), (2, .int (nI 0))]) hx hb dX2_goOver_16 hl (by decide) rfl (fun ls hl => ?_)
  refine lv_aload hx hb dX2_goOver_18 (lv_at hl 0 rfl) ?_
  refine lv_ifnonnull (tgt := 26) hx hb dX2_goOver_20 (by decide) ?_
  refine lv_aload_n hx hb dX2_goOver_26 rfl (lv_at hl 1 rfl) ?_
  -- c_isOld_f
  refine pw_cVp (As := []) (rest := []) (wc := [(po p, .inr (0, [.ref (ro i), .int (nI (q + 1)), .int (ps), .int (ph), .int (pt), .int (pm)])), (ro i, .inr (1, [.ref a, .int (nI n), .int (ch)])), (a, .inl (cI, 60, .inl (f)))]) ⟨hx, hb, hml, hown, hts⟩ (c_isOld_f l D cI cP cR (po p) (nI (q + 1)) ps ph pt pm (ro i) a n ch f ho ⟨pw_ge0 (by omega), (pw_leN (by omega) (by omega)).mpr (by omega)⟩) (cwV 0 hts gX2_goOver_X0_isOld rfl rfl rfl (by decide +kernel) ⟨Nat.le_of_ble_eq_true rfl, Nat.le_of_ble_eq_true rfl⟩) hK hP hD [2, 3, 4] rfl (by decide) 0 rfl rfl rfl rfl hl.1 rfl (Nat.le_of_ble_eq_true rfl) dX2_goOver_27 ⟨Nat.zero_le _, Nat.zero_le _⟩ ?_
  refine lv_if_eq (tgt := 40) hx hb dX2_goOver_30 (by decide) (fun c => ?_) (fun c => absurd c (by decide))
  refine lv_iload_n hx hb dX2_goOver_40 rfl (lv_at hl 4 rfl) ?_
  refine lv_if_eq (tgt := 51) hx hb dX2_goOver_41 (by decide) (fun c => ?_) (fun c => absurd c (by decide))
  refine lv_aload_n hx hb dX2_goOver_51 rfl (lv_at hl 1 rfl) ?_
  refine va_getN (D := D) (ci := 0) (v := .int (nI (q + 1))) (C := RX0) (T := TX0) (N := 6) hx hb hts hi_X2_goOver_0 hown hK.1 hP 2 rfl rfl 1 (by decide) (va_Nw.use rfl hNW.2.2.1) (fun _ h9 => h9) rfl dX2_goOver_52 ?_
  refine lv_iconst (v := nI 1) hx hb dX2_goOver_55 (by decide) ?_
  refine lv_isub hx hb dX2_goOver_56 ?_
  refine pw_top (y := nI q) (by rw [pw_n1, nI_pred]) ?_
  refine lv_istore (lv' := [(5, .int (nI q)), (4, .ref (ro i)), (3, .ref (po p)), (0, .ref h), (1, .int (nI p)), (2, .int (nI 0))]) hx hb dX2_goOver_57 hl (by decide) rfl (fun ls hl => ?_)
  refine lv_aload hx hb dX2_goOver_59 (lv_at hl 1 rfl) ?_
  refine lv_iload hx hb dX2_goOver_61 (lv_at hl 0 rfl) ?_
  -- c_hasThingAt_t
  refine pw_cVp (As := [.int (nI q)]) (rest := []) (wc := [(ro i, .inr (1, [.ref a, .int (nI n), .int (ch)])), (a, .inl (cI, 60, .inl (f)))]) ⟨hx, hb, hml, hown, hts⟩ (c_hasThingAt_t l D cI cP cR (ro i) a n ch f q (by omega) (by omega)) (cwV 1 hts gX2_goOver_X1_hasThingAt rfl rfl rfl (by decide +kernel) ⟨Nat.le_of_ble_eq_true rfl, Nat.le_of_ble_eq_true rfl⟩) hK hP hD [3, 4] rfl (by decide) 0 rfl rfl rfl rfl hl.1 rfl (Nat.le_of_ble_eq_true rfl) dX2_goOver_63 ⟨Nat.zero_le _, Nat.zero_le _⟩ ?_
  refine lv_if_ne (tgt := 81) hx hb dX2_goOver_66 (by decide) (fun c => ?_) (fun c => absurd c (by decide))
  refine lv_aload_n hx hb dX2_goOver_81 rfl (lv_at hl 2 rfl) ?_
  refine lv_iload_n hx hb dX2_goOver_82 rfl (lv_at hl 5 rfl) ?_
  refine lv_if_eq (tgt := 93) hx hb dX2_goOver_83 (by decide) (fun c => ?_) (fun c => absurd c (by decide))
  refine lv_iload hx hb dX2_goOver_93 (lv_at hl 0 rfl) ?_
  refine va_putN (D := D) (ci := 0) (v := .int (nI q)) (ty := .int) (C := RX0) (T := TX0) (N := 6) hx hb hts hi_X2_goOver_0 tyX0 tyX0_ok nmX0 hown hK.1 hP hD hS 2 rfl rfl 1 (by decide) (va_Nw.use rfl hNW.2.2.1) (fun _ h9 => h9) rfl (by decide +kernel) rfl rfl (Nat.le_of_ble_eq_true rfl) dX2_goOver_95 (fun H locs hP hD hS => ?_)
  have hP : va_P D vwCl ([(h, .inr (2, [.ref qr, .ref qp, .int (nI md), .int (r0), .int (r1), .int (r2), .int (r3)])), (qp, .inl (cP, 4, .inr (.inr (.inr (.inr (fun i => some (po i))))))), (po p, .inr (0, [.ref (ro i), .int (nI q), .int (ps), .int (ph), .int (pt), .int (pm)])), (ro i, .inr (1, [.ref a, .int (nI n), .int (ch)])), (a, .inl (cI, 60, .inl (f)))]) H := hP
  have hD : va_D A ([(h, .inr (2, [.ref qr, .ref qp, .int (nI md), .int (r0), .int (r1), .int (r2), .int (r3)])), (qp, .inl (cP, 4, .inr (.inr (.inr (.inr (fun i => some (po i))))))), (po p, .inr (0, [.ref (ro i), .int (nI q), .int (ps), .int (ph), .int (pt), .int (pm)])), (ro i, .inr (1, [.ref a, .int (nI n), .int (ch)])), (a, .inl (cI, 60, .inl (f)))]) := hD
  refine lv_aload_n hx hb dX2_goOver_98 rfl (lv_at hl 2 rfl) ?_
  refine lv_iload hx hb dX2_goOver_99 (lv_at hl 0 rfl) ?_
  refine lv_aload hx hb dX2_goOver_101 (lv_at hl 1 rfl) ?_
  refine lv_iload hx hb dX2_goOver_103 (lv_at hl 0 rfl) ?_
  -- c_thingAt
  refine pw_cVp (As := [.int (nI q)]) (rest := [.int (nI q), .ref (po p)]) (wc := [(ro i, .inr (1, [.ref a, .int (nI n), .int (ch)])), (a, .inl (cI, 60, .inl (f)))]) ⟨hx, hb, hml, hown, hts⟩ (c_thingAt l D cI cP cR (ro i) a n ch f q (by omega)) (cwV 1 hts gX2_goOver_X1_thingAt rfl rfl rfl (by decide +kernel) ⟨Nat.le_of_ble_eq_true rfl, Nat.le_of_ble_eq_true rfl⟩) hK hP hD [3, 4] rfl (by decide) 0 rfl rfl rfl rfl hl.1 rfl (Nat.le_of_ble_eq_true rfl) dX2_goOver_105 ⟨Nat.zero_le _, Nat.zero_le _⟩ ?_
  -- c_hold
  refine pw_cVm (As := [.int (nI q), .int (f q)]) (rest := []) (wc := [(po p, .inr (0, [.ref (ro i), .int (nI q), .int (ps), .int (ph), .int (pt), .int (pm)]))]) (wr := [(h, .inr (2, [.ref qr, .ref qp, .int (nI md), .int (r0), .int (r1), .int (r2), .int (r3)])), (qp, .inl (cP, 4, .inr (.inr (.inr (.inr (fun i => some (po i))))))), (ro i, .inr (1, [.ref a, .int (nI n), .int (ch)])), (a, .inl (cI, 60, .inl (f)))]) ⟨hx, hb, hml, hown, hts⟩ (c_hold l D cI cP cR (po p) (nI q) ps ph pt pm (some (ro i)) (nI q) (f q)) (cwV 2 hts gX2_goOver_X0_hold rfl rfl rfl (by decide +kernel) ⟨Nat.le_of_ble_eq_true rfl, Nat.le_of_ble_eq_true rfl⟩) hK hP hD hS hA [2] [0, 1, 3, 4] rfl rfl (by decide) (by decide) (by decide) 0 rfl rfl rfl rfl hl.1 rfl (Nat.le_of_ble_eq_true rfl) dX2_goOver_108 ⟨Nat.zero_le _, Nat.zero_le _⟩ (fun v1 w1 H locs hq hP hD hS => ?_)
  rcases hq with ⟨rfl, rfl⟩
  have hP : va_P D vwCl ([(h, .inr (2, [.ref qr, .ref qp, .int (nI md), .int (r0), .int (r1), .int (r2), .int (r3)])), (qp, .inl (cP, 4, .inr (.inr (.inr (.inr (fun i => some (po i))))))), (ro i, .inr (1, [.ref a, .int (nI n), .int (ch)])), (a, .inl (cI, 60, .inl (f))), (po p, .inr (0, [.ref (ro i), .int (nI q), .int (ps), .int (nI q), .int (f q), .int (nI 0)]))]) H := hP
  have hD : va_D A ([(h, .inr (2, [.ref qr, .ref qp, .int (nI md), .int (r0), .int (r1), .int (r2), .int (r3)])), (qp, .inl (cP, 4, .inr (.inr (.inr (.inr (fun i => some (po i))))))), (ro i, .inr (1, [.ref a, .int (nI n), .int (ch)])), (a, .inl (cI, 60, .inl (f))), (po p, .inr (0, [.ref (ro i), .int (nI q), .int (ps), .int (nI q), .int (f q), .int (nI 0)]))]) := hD
  refine W.eq (g2 := F0 m 111 ls [.int (f q)]) rfl ?_
  have hP := hP.sub (ws' := [(h, .inr (2, [.ref qr, .ref qp, .int (nI md), .int (r0), .int (r1), .int (r2), .int (r3)])), (qp, .inl (cP, 4, .inr (.inr (.inr (.inr (fun i => some (po i))))))), (po p, .inr (0, [.ref (ro i), .int (nI q), .int (ps), .int (nI q), .int (f q), .int (nI 0)])), (ro i, .inr (1, [.ref a, .int (nI n), .int (ch)])), (a, .inl (cI, 60, .inl (f)))]) [0, 1, 4, 2, 3] rfl
  have hD := hD.sub (ws' := [(h, .inr (2, [.ref qr, .ref qp, .int (nI md), .int (r0), .int (r1), .int (r2), .int (r3)])), (qp, .inl (cP, 4, .inr (.inr (.inr (.inr (fun i => some (po i))))))), (po p, .inr (0, [.ref (ro i), .int (nI q), .int (ps), .int (nI q), .int (f q), .int (nI 0)])), (ro i, .inr (1, [.ref a, .int (nI n), .int (ch)])), (a, .inl (cI, 60, .inl (f)))]) [0, 1, 4, 2, 3] (by decide) rfl
  exact pw_iret hx hb hr (rfl) hlocks dX2_goOver_111 hS hP hD (⟨rfl, rfl⟩)
set_option maxHeartbeats 4000000 in
set_option maxRecDepth 100000 in
theorem k_next_x (l : Launch) (D : va_G) (cI cP cR : ClassId) (h qr qp md : Nat) (r0 r1 r2 r3 : Int32) (po : Nat → Nat) (peg : Int32) (hx_peg : ¬ (0 ≤ peg ∧ peg < nI 4)) : pw_Mp l yX2_next wsX2_next ({ frames := 3, cells := 0, slots := 0, locals := 70 } : Room) D cI cP cR [.ref h, .int (peg)] ([(h, .inr (2, [.ref qr, .ref qp, .int (nI md), .int (r0), .int (r1), .int (r2), .int (r3)])), (qp, .inl (cP, 4, .inr (.inr (.inr (.inr (fun i => some (po i)))))))]) (.int (-1)) := by
  refine pw_ofp (cc := cX2_next) (maxL := 2) (ret := (some .int)) (own := RX2) (by decide +kernel) rfl rfl (Nat.le_of_ble_eq_true rfl) ?_
  intro p_ e_ s m bel meth cd hE hK hP hD ls hl
  obtain ⟨hx, hb, hr, hml, hown, hts, hlocks⟩ := hE
  have hNW := hK.2
  have hl : lv_has ls 2 [(0, .ref h), (1, .int (peg))] := hl
  refine lv_aload_n hx hb dX2_next_0 rfl (lv_at hl 0 rfl) ?_
  refine lv_iload_n hx hb dX2_next_1 rfl (lv_at hl 1 rfl) ?_
  refine lv_iconst (v := nI 1) hx hb dX2_next_2 (by decide) ?_
  -- c_go_x
  refine pw_cVp (As := [.int (peg), .int (nI 1)]) (rest := []) (wc := [(h, .inr (2, [.ref qr, .ref qp, .int (nI md), .int (r0), .int (r1), .int (r2), .int (r3)])), (qp, .inl (cP, 4, .inr (.inr (.inr (.inr (fun i => some (po i)))))))]) ⟨hx, hb, hml, hown, hts⟩ (c_go_x l D cI cP cR h qr qp md r0 r1 r2 r3 po peg (nI 1) hx_peg) (cwV 2 hts gX2_next_X2_goOver rfl rfl rfl (by decide +kernel) ⟨Nat.le_of_ble_eq_true rfl, Nat.le_of_ble_eq_true rfl⟩) hK hP hD [0, 1] rfl (by decide) 0 rfl rfl rfl rfl hl.1 rfl (Nat.le_of_ble_eq_true rfl) dX2_next_3 ⟨Nat.zero_le _, Nat.zero_le _⟩ ?_
  exact pw_piret hx hb hr (rfl) hlocks dX2_next_6 (rfl)
set_option maxHeartbeats 4000000 in
set_option maxRecDepth 100000 in
theorem k_next_n (l : Launch) (D : va_G) (cI cP cR : ClassId) (h qr qp md : Nat) (r0 r1 r2 r3 : Int32) (po : Nat → Nat) (p : Nat) (pa ps ph pt pm : Int32) (hp4 : p < 4) : pw_Mp l yX2_next wsX2_next ({ frames := 3, cells := 0, slots := 0, locals := 70 } : Room) D cI cP cR [.ref h, .int (nI p)] ([(h, .inr (2, [.ref qr, .ref qp, .int (nI md), .int (r0), .int (r1), .int (r2), .int (r3)])), (qp, .inl (cP, 4, .inr (.inr (.inr (.inr (fun i => some (po i))))))), (po p, .inr (0, [.null, .int (pa), .int (ps), .int (ph), .int (pt), .int (pm)]))]) (.int (-2)) := by
  refine pw_ofp (cc := cX2_next) (maxL := 2) (ret := (some .int)) (own := RX2) (by decide +kernel) rfl rfl (Nat.le_of_ble_eq_true rfl) ?_
  intro p_ e_ s m bel meth cd hE hK hP hD ls hl
  obtain ⟨hx, hb, hr, hml, hown, hts, hlocks⟩ := hE
  have hNW := hK.2
  have hl : lv_has ls 2 [(0, .ref h), (1, .int (nI p))] := hl
  refine lv_aload_n hx hb dX2_next_0 rfl (lv_at hl 0 rfl) ?_
  refine lv_iload_n hx hb dX2_next_1 rfl (lv_at hl 1 rfl) ?_
  refine lv_iconst (v := nI 1) hx hb dX2_next_2 (by decide) ?_
  -- c_go_n
  refine pw_cVp (As := [.int (nI p), .int (nI 1)]) (rest := []) (wc := [(h, .inr (2, [.ref qr, .ref qp, .int (nI md), .int (r0), .int (r1), .int (r2), .int (r3)])), (qp, .inl (cP, 4, .inr (.inr (.inr (.inr (fun i => some (po i))))))), (po p, .inr (0, [.null, .int (pa), .int (ps), .int (ph), .int (pt), .int (pm)]))]) ⟨hx, hb, hml, hown, hts⟩ (c_go_n l D cI cP cR h qr qp md r0 r1 r2 r3 po p pa ps ph pt pm (by omega) (nI 1)) (cwV 2 hts gX2_next_X2_goOver rfl rfl rfl (by decide +kernel) ⟨Nat.le_of_ble_eq_true rfl, Nat.le_of_ble_eq_true rfl⟩) hK hP hD [0, 1, 2] rfl (by decide) 0 rfl rfl rfl rfl hl.1 rfl (Nat.le_of_ble_eq_true rfl) dX2_next_3 ⟨Nat.zero_le _, Nat.zero_le _⟩ ?_
  exact pw_piret hx hb hr (rfl) hlocks dX2_next_6 (rfl)
set_option maxHeartbeats 4000000 in
set_option maxRecDepth 100000 in
theorem k_next_o (l : Launch) (D : va_G) (cI cP cR : ClassId) (h qr qp md : Nat) (r0 r1 r2 r3 : Int32) (po ro : Nat → Nat) (p i a n : Nat) (ch : Int32) (f : Nat → Int32) (pa ps ph pt pm : Int32) (hp4 : p < 4) (hi : i < 3) (hn : n ≤ 60) (ho : ¬ ps = ch) : pw_Mm l yX2_next wsX2_next ({ frames := 3, cells := 0, slots := 0, locals := 70 } : Room) D cI cP cR [.ref h, .int (nI p)] ([(h, .inr (2, [.ref qr, .ref qp, .int (nI md), .int (r0), .int (r1), .int (r2), .int (r3)])), (qp, .inl (cP, 4, .inr (.inr (.inr (.inr (fun i => some (po i))))))), (po p, .inr (0, [.ref (ro i), .int (pa), .int (ps), .int (ph), .int (pt), .int (pm)])), (ro i, .inr (1, [.ref a, .int (nI n), .int (ch)])), (a, .inl (cI, 60, .inl (f)))]) (fun v w => v = some (.int (-4)) ∧ w = [(h, .inr (2, [.ref qr, .ref qp, .int (nI md), .int (r0), .int (r1), .int (r2), .int (r3 + nI 1)])), (qp, .inl (cP, 4, .inr (.inr (.inr (.inr (fun i => some (po i))))))), (po p, .inr (0, [.ref (ro i), .int (pa), .int (ps), .int (ph), .int (pt), .int (pm)])), (ro i, .inr (1, [.ref a, .int (nI n), .int (ch)])), (a, .inl (cI, 60, .inl (f)))]) := by
  refine pw_ofm (cc := cX2_next) (maxL := 2) (ret := (some .int)) (own := RX2) (by decide +kernel) rfl rfl (Nat.le_of_ble_eq_true rfl) ?_
  intro p_ e_ s m bel meth cd A hE hK hP hD hA hS ls hl
  obtain ⟨hx, hb, hr, hml, hown, hts, hlocks⟩ := hE
  have hNW := hK.2
  have hl : lv_has ls 2 [(0, .ref h), (1, .int (nI p))] := hl
  refine lv_aload_n hx hb dX2_next_0 rfl (lv_at hl 0 rfl) ?_
  refine lv_iload_n hx hb dX2_next_1 rfl (lv_at hl 1 rfl) ?_
  refine lv_iconst (v := nI 1) hx hb dX2_next_2 (by decide) ?_
  -- c_go_o
  refine pw_cVm (As := [.int (nI p), .int (nI 1)]) (rest := []) (wc := [(h, .inr (2, [.ref qr, .ref qp, .int (nI md), .int (r0), .int (r1), .int (r2), .int (r3)])), (qp, .inl (cP, 4, .inr (.inr (.inr (.inr (fun i => some (po i))))))), (po p, .inr (0, [.ref (ro i), .int (pa), .int (ps), .int (ph), .int (pt), .int (pm)])), (ro i, .inr (1, [.ref a, .int (nI n), .int (ch)])), (a, .inl (cI, 60, .inl (f)))]) (wr := []) ⟨hx, hb, hml, hown, hts⟩ (c_go_o l D cI cP cR h qr qp md r0 r1 r2 r3 po ro p i a n ch f pa ps ph pt pm (by omega) (by omega) (by omega) (nI 1) ho) (cwV 2 hts gX2_next_X2_goOver rfl rfl rfl (by decide +kernel) ⟨Nat.le_of_ble_eq_true rfl, Nat.le_of_ble_eq_true rfl⟩) hK hP hD hS hA [0, 1, 2, 3, 4] [] rfl rfl (by decide) (by decide) (by decide) 0 rfl rfl rfl rfl hl.1 rfl (Nat.le_of_ble_eq_true rfl) dX2_next_3 ⟨Nat.zero_le _, Nat.zero_le _⟩ (fun v1 w1 H locs hq hP hD hS => ?_)
  rcases hq with ⟨rfl, rfl⟩
  have hP : va_P D vwCl ([(h, .inr (2, [.ref qr, .ref qp, .int (nI md), .int (r0), .int (r1), .int (r2), .int (r3 + nI 1)])), (qp, .inl (cP, 4, .inr (.inr (.inr (.inr (fun i => some (po i))))))), (po p, .inr (0, [.ref (ro i), .int (pa), .int (ps), .int (ph), .int (pt), .int (pm)])), (ro i, .inr (1, [.ref a, .int (nI n), .int (ch)])), (a, .inl (cI, 60, .inl (f)))]) H := hP
  have hD : va_D A ([(h, .inr (2, [.ref qr, .ref qp, .int (nI md), .int (r0), .int (r1), .int (r2), .int (r3 + nI 1)])), (qp, .inl (cP, 4, .inr (.inr (.inr (.inr (fun i => some (po i))))))), (po p, .inr (0, [.ref (ro i), .int (pa), .int (ps), .int (ph), .int (pt), .int (pm)])), (ro i, .inr (1, [.ref a, .int (nI n), .int (ch)])), (a, .inl (cI, 60, .inl (f)))]) := hD
  refine W.eq (g2 := F0 m 6 ls [.int (-4)]) rfl ?_
  exact pw_iret hx hb hr (rfl) hlocks dX2_next_6 hS hP hD (⟨rfl, rfl⟩)
set_option maxHeartbeats 4000000 in
set_option maxRecDepth 100000 in
theorem k_next_e (l : Launch) (D : va_G) (cI cP cR : ClassId) (h qr qp md : Nat) (r0 r1 r2 r3 : Int32) (po ro : Nat → Nat) (p i a n : Nat) (ch : Int32) (f : Nat → Int32) (pa ps ph pt pm : Int32) (hp4 : p < 4) (hi : i < 3) (hn : n ≤ 60) (ho : ps = ch) (hw : 0 ≤ pa ∧ pa ≤ nI n) (hq : ¬ (0 ≤ pa ∧ pa < nI n)) : pw_Mm l yX2_next wsX2_next ({ frames := 3, cells := 0, slots := 0, locals := 70 } : Room) D cI cP cR [.ref h, .int (nI p)] ([(h, .inr (2, [.ref qr, .ref qp, .int (nI md), .int (r0), .int (r1), .int (r2), .int (r3)])), (qp, .inl (cP, 4, .inr (.inr (.inr (.inr (fun i => some (po i))))))), (po p, .inr (0, [.ref (ro i), .int (pa), .int (ps), .int (ph), .int (pt), .int (pm)])), (ro i, .inr (1, [.ref a, .int (nI n), .int (ch)])), (a, .inl (cI, 60, .inl (f)))]) (fun v w => v = some (.int (-6)) ∧ w = [(h, .inr (2, [.ref qr, .ref qp, .int (nI md), .int (r0 + nI 1), .int (r1), .int (r2), .int (r3)])), (qp, .inl (cP, 4, .inr (.inr (.inr (.inr (fun i => some (po i))))))), (po p, .inr (0, [.ref (ro i), .int (pa), .int (ps), .int (ph), .int (pt), .int (nI 1)])), (ro i, .inr (1, [.ref a, .int (nI n), .int (ch)])), (a, .inl (cI, 60, .inl (f)))]) := by
  refine pw_ofm (cc := cX2_next) (maxL := 2) (ret := (some .int)) (own := RX2) (by decide +kernel) rfl rfl (Nat.le_of_ble_eq_true rfl) ?_
  intro p_ e_ s m bel meth cd A hE hK hP hD hA hS ls hl
  obtain ⟨hx, hb, hr, hml, hown, hts, hlocks⟩ := hE
  have hNW := hK.2
  have hl : lv_has ls 2 [(0, .ref h), (1, .int (nI p))] := hl
  refine lv_aload_n hx hb dX2_next_0 rfl (lv_at hl 0 rfl) ?_
  refine lv_iload_n hx hb dX2_next_1 rfl (lv_at hl 1 rfl) ?_
  refine lv_iconst (v := nI 1) hx hb dX2_next_2 (by decide) ?_
  -- c_go_e1
  refine pw_cVm (As := [.int (nI p), .int (nI 1)]) (rest := []) (wc := [(h, .inr (2, [.ref qr, .ref qp, .int (nI md), .int (r0), .int (r1), .int (r2), .int (r3)])), (qp, .inl (cP, 4, .inr (.inr (.inr (.inr (fun i => some (po i))))))), (po p, .inr (0, [.ref (ro i), .int (pa), .int (ps), .int (ph), .int (pt), .int (pm)])), (ro i, .inr (1, [.ref a, .int (nI n), .int (ch)])), (a, .inl (cI, 60, .inl (f)))]) (wr := []) ⟨hx, hb, hml, hown, hts⟩ (c_go_e1 l D cI cP cR h qr qp md r0 r1 r2 r3 po ro p i a n ch f pa ps ph pt pm (by omega) (by omega) (by omega) ho hw hq) (cwV 2 hts gX2_next_X2_goOver rfl rfl rfl (by decide +kernel) ⟨Nat.le_of_ble_eq_true rfl, Nat.le_of_ble_eq_true rfl⟩) hK hP hD hS hA [0, 1, 2, 3, 4] [] rfl rfl (by decide) (by decide) (by decide) 0 rfl rfl rfl rfl hl.1 rfl (Nat.le_of_ble_eq_true rfl) dX2_next_3 ⟨Nat.zero_le _, Nat.zero_le _⟩ (fun v1 w1 H locs hq hP hD hS => ?_)
  rcases hq with ⟨rfl, rfl⟩
  have hP : va_P D vwCl ([(h, .inr (2, [.ref qr, .ref qp, .int (nI md), .int (r0 + nI 1), .int (r1), .int (r2), .int (r3)])), (qp, .inl (cP, 4, .inr (.inr (.inr (.inr (fun i => some (po i))))))), (po p, .inr (0, [.ref (ro i), .int (pa), .int (ps), .int (ph), .int (pt), .int (nI 1)])), (ro i, .inr (1, [.ref a, .int (nI n), .int (ch)])), (a, .inl (cI, 60, .inl (f)))]) H := hP
  have hD : va_D A ([(h, .inr (2, [.ref qr, .ref qp, .int (nI md), .int (r0 + nI 1), .int (r1), .int (r2), .int (r3)])), (qp, .inl (cP, 4, .inr (.inr (.inr (.inr (fun i => some (po i))))))), (po p, .inr (0, [.ref (ro i), .int (pa), .int (ps), .int (ph), .int (pt), .int (nI 1)])), (ro i, .inr (1, [.ref a, .int (nI n), .int (ch)])), (a, .inl (cI, 60, .inl (f)))]) := hD
  refine W.eq (g2 := F0 m 6 ls [.int (-6)]) rfl ?_
  exact pw_iret hx hb hr (rfl) hlocks dX2_next_6 hS hP hD (⟨rfl, rfl⟩)
set_option maxHeartbeats 4000000 in
set_option maxRecDepth 100000 in
theorem k_next (l : Launch) (D : va_G) (cI cP cR : ClassId) (h qr qp md : Nat) (r0 r1 r2 r3 : Int32) (po ro : Nat → Nat) (p i a n : Nat) (ch : Int32) (f : Nat → Int32) (pa ps ph pt pm : Int32) (hp4 : p < 4) (hi : i < 3) (hn : n ≤ 60) (ho : ps = ch) (q : Nat) (hq : q < n) : pw_Mm l yX2_next wsX2_next ({ frames := 3, cells := 0, slots := 0, locals := 70 } : Room) D cI cP cR [.ref h, .int (nI p)] ([(h, .inr (2, [.ref qr, .ref qp, .int (nI md), .int (r0), .int (r1), .int (r2), .int (r3)])), (qp, .inl (cP, 4, .inr (.inr (.inr (.inr (fun i => some (po i))))))), (po p, .inr (0, [.ref (ro i), .int (nI q), .int (ps), .int (ph), .int (pt), .int (pm)])), (ro i, .inr (1, [.ref a, .int (nI n), .int (ch)])), (a, .inl (cI, 60, .inl (f)))]) (fun v w => v = some (.int (f q)) ∧ w = [(h, .inr (2, [.ref qr, .ref qp, .int (nI md), .int (r0), .int (r1), .int (r2), .int (r3)])), (qp, .inl (cP, 4, .inr (.inr (.inr (.inr (fun i => some (po i))))))), (po p, .inr (0, [.ref (ro i), .int (nI (q + 1)), .int (ps), .int (nI q), .int (f q), .int (nI 0)])), (ro i, .inr (1, [.ref a, .int (nI n), .int (ch)])), (a, .inl (cI, 60, .inl (f)))]) := by
  refine pw_ofm (cc := cX2_next) (maxL := 2) (ret := (some .int)) (own := RX2) (by decide +kernel) rfl rfl (Nat.le_of_ble_eq_true rfl) ?_
  intro p_ e_ s m bel meth cd A hE hK hP hD hA hS ls hl
  obtain ⟨hx, hb, hr, hml, hown, hts, hlocks⟩ := hE
  have hNW := hK.2
  have hl : lv_has ls 2 [(0, .ref h), (1, .int (nI p))] := hl
  refine lv_aload_n hx hb dX2_next_0 rfl (lv_at hl 0 rfl) ?_
  refine lv_iload_n hx hb dX2_next_1 rfl (lv_at hl 1 rfl) ?_
  refine lv_iconst (v := nI 1) hx hb dX2_next_2 (by decide) ?_
  -- c_go_1
  refine pw_cVm (As := [.int (nI p), .int (nI 1)]) (rest := []) (wc := [(h, .inr (2, [.ref qr, .ref qp, .int (nI md), .int (r0), .int (r1), .int (r2), .int (r3)])), (qp, .inl (cP, 4, .inr (.inr (.inr (.inr (fun i => some (po i))))))), (po p, .inr (0, [.ref (ro i), .int (nI q), .int (ps), .int (ph), .int (pt), .int (pm)])), (ro i, .inr (1, [.ref a, .int (nI n), .int (ch)])), (a, .inl (cI, 60, .inl (f)))]) (wr := []) ⟨hx, hb, hml, hown, hts⟩ (c_go_1 l D cI cP cR h qr qp md r0 r1 r2 r3 po ro p i a n ch f pa ps ph pt pm (by omega) (by omega) (by omega) ho q hq) (cwV 2 hts gX2_next_X2_goOver rfl rfl rfl (by decide +kernel) ⟨Nat.le_of_ble_eq_true rfl, Nat.le_of_ble_eq_true rfl⟩) hK hP hD hS hA [0, 1, 2, 3, 4] [] rfl rfl (by decide) (by decide) (by decide) 0 rfl rfl rfl rfl hl.1 rfl (Nat.le_of_ble_eq_true rfl) dX2_next_3 ⟨Nat.zero_le _, Nat.zero_le _⟩ (fun v1 w1 H locs hq hP hD hS => ?_)
  rcases hq with ⟨rfl, rfl⟩
  have hP : va_P D vwCl ([(h, .inr (2, [.ref qr, .ref qp, .int (nI md), .int (r0), .int (r1), .int (r2), .int (r3)])), (qp, .inl (cP, 4, .inr (.inr (.inr (.inr (fun i => some (po i))))))), (po p, .inr (0, [.ref (ro i), .int (nI (q + 1)), .int (ps), .int (nI q), .int (f q), .int (nI 0)])), (ro i, .inr (1, [.ref a, .int (nI n), .int (ch)])), (a, .inl (cI, 60, .inl (f)))]) H := hP
  have hD : va_D A ([(h, .inr (2, [.ref qr, .ref qp, .int (nI md), .int (r0), .int (r1), .int (r2), .int (r3)])), (qp, .inl (cP, 4, .inr (.inr (.inr (.inr (fun i => some (po i))))))), (po p, .inr (0, [.ref (ro i), .int (nI (q + 1)), .int (ps), .int (nI q), .int (f q), .int (nI 0)])), (ro i, .inr (1, [.ref a, .int (nI n), .int (ch)])), (a, .inl (cI, 60, .inl (f)))]) := hD
  refine W.eq (g2 := F0 m 6 ls [.int (f q)]) rfl ?_
  exact pw_iret hx hb hr (rfl) hlocks dX2_next_6 hS hP hD (⟨rfl, rfl⟩)
set_option maxHeartbeats 4000000 in
set_option maxRecDepth 100000 in
theorem k_previous_x (l : Launch) (D : va_G) (cI cP cR : ClassId) (h qr qp md : Nat) (r0 r1 r2 r3 : Int32) (po : Nat → Nat) (peg : Int32) (hx_peg : ¬ (0 ≤ peg ∧ peg < nI 4)) : pw_Mp l yX2_previous wsX2_previous ({ frames := 3, cells := 0, slots := 0, locals := 70 } : Room) D cI cP cR [.ref h, .int (peg)] ([(h, .inr (2, [.ref qr, .ref qp, .int (nI md), .int (r0), .int (r1), .int (r2), .int (r3)])), (qp, .inl (cP, 4, .inr (.inr (.inr (.inr (fun i => some (po i)))))))]) (.int (-1)) := by
  refine pw_ofp (cc := cX2_previous) (maxL := 2) (ret := (some .int)) (own := RX2) (by decide +kernel) rfl rfl (Nat.le_of_ble_eq_true rfl) ?_
  intro p_ e_ s m bel meth cd hE hK hP hD ls hl
  obtain ⟨hx, hb, hr, hml, hown, hts, hlocks⟩ := hE
  have hNW := hK.2
  have hl : lv_has ls 2 [(0, .ref h), (1, .int (peg))] := hl
  refine lv_aload_n hx hb dX2_previous_0 rfl (lv_at hl 0 rfl) ?_
  refine lv_iload_n hx hb dX2_previous_1 rfl (lv_at hl 1 rfl) ?_
  refine lv_iconst (v := nI 0) hx hb dX2_previous_2 (by decide) ?_
  -- c_go_x
  refine pw_cVp (As := [.int (peg), .int (nI 0)]) (rest := []) (wc := [(h, .inr (2, [.ref qr, .ref qp, .int (nI md), .int (r0), .int (r1), .int (r2), .int (r3)])), (qp, .inl (cP, 4, .inr (.inr (.inr (.inr (fun i => some (po i)))))))]) ⟨hx, hb, hml, hown, hts⟩ (c_go_x l D cI cP cR h qr qp md r0 r1 r2 r3 po peg (nI 0) hx_peg) (cwV 2 hts gX2_previous_X2_goOver rfl rfl rfl (by decide +kernel) ⟨Nat.le_of_ble_eq_true rfl, Nat.le_of_ble_eq_true rfl⟩) hK hP hD [0, 1] rfl (by decide) 0 rfl rfl rfl rfl hl.1 rfl (Nat.le_of_ble_eq_true rfl) dX2_previous_3 ⟨Nat.zero_le _, Nat.zero_le _⟩ ?_
  exact pw_piret hx hb hr (rfl) hlocks dX2_previous_6 (rfl)
set_option maxHeartbeats 4000000 in
set_option maxRecDepth 100000 in
theorem k_previous_n (l : Launch) (D : va_G) (cI cP cR : ClassId) (h qr qp md : Nat) (r0 r1 r2 r3 : Int32) (po : Nat → Nat) (p : Nat) (pa ps ph pt pm : Int32) (hp4 : p < 4) : pw_Mp l yX2_previous wsX2_previous ({ frames := 3, cells := 0, slots := 0, locals := 70 } : Room) D cI cP cR [.ref h, .int (nI p)] ([(h, .inr (2, [.ref qr, .ref qp, .int (nI md), .int (r0), .int (r1), .int (r2), .int (r3)])), (qp, .inl (cP, 4, .inr (.inr (.inr (.inr (fun i => some (po i))))))), (po p, .inr (0, [.null, .int (pa), .int (ps), .int (ph), .int (pt), .int (pm)]))]) (.int (-2)) := by
  refine pw_ofp (cc := cX2_previous) (maxL := 2) (ret := (some .int)) (own := RX2) (by decide +kernel) rfl rfl (Nat.le_of_ble_eq_true rfl) ?_
  intro p_ e_ s m bel meth cd hE hK hP hD ls hl
  obtain ⟨hx, hb, hr, hml, hown, hts, hlocks⟩ := hE
  have hNW := hK.2
  have hl : lv_has ls 2 [(0, .ref h), (1, .int (nI p))] := hl
  refine lv_aload_n hx hb dX2_previous_0 rfl (lv_at hl 0 rfl) ?_
  refine lv_iload_n hx hb dX2_previous_1 rfl (lv_at hl 1 rfl) ?_
  refine lv_iconst (v := nI 0) hx hb dX2_previous_2 (by decide) ?_
  -- c_go_n
  refine pw_cVp (As := [.int (nI p), .int (nI 0)]) (rest := []) (wc := [(h, .inr (2, [.ref qr, .ref qp, .int (nI md), .int (r0), .int (r1), .int (r2), .int (r3)])), (qp, .inl (cP, 4, .inr (.inr (.inr (.inr (fun i => some (po i))))))), (po p, .inr (0, [.null, .int (pa), .int (ps), .int (ph), .int (pt), .int (pm)]))]) ⟨hx, hb, hml, hown, hts⟩ (c_go_n l D cI cP cR h qr qp md r0 r1 r2 r3 po p pa ps ph pt pm (by omega) (nI 0)) (cwV 2 hts gX2_previous_X2_goOver rfl rfl rfl (by decide +kernel) ⟨Nat.le_of_ble_eq_true rfl, Nat.le_of_ble_eq_true rfl⟩) hK hP hD [0, 1, 2] rfl (by decide) 0 rfl rfl rfl rfl hl.1 rfl (Nat.le_of_ble_eq_true rfl) dX2_previous_3 ⟨Nat.zero_le _, Nat.zero_le _⟩ ?_
  exact pw_piret hx hb hr (rfl) hlocks dX2_previous_6 (rfl)
set_option maxHeartbeats 4000000 in
set_option maxRecDepth 100000 in
theorem k_previous_o (l : Launch) (D : va_G) (cI cP cR : ClassId) (h qr qp md : Nat) (r0 r1 r2 r3 : Int32) (po ro : Nat → Nat) (p i a n : Nat) (ch : Int32) (f : Nat → Int32) (pa ps ph pt pm : Int32) (hp4 : p < 4) (hi : i < 3) (hn : n ≤ 60) (ho : ¬ ps = ch) : pw_Mm l yX2_previous wsX2_previous ({ frames := 3, cells := 0, slots := 0, locals := 70 } : Room) D cI cP cR [.ref h, .int (nI p)] ([(h, .inr (2, [.ref qr, .ref qp, .int (nI md), .int (r0), .int (r1), .int (r2), .int (r3)])), (qp, .inl (cP, 4, .inr (.inr (.inr (.inr (fun i => some (po i))))))), (po p, .inr (0, [.ref (ro i), .int (pa), .int (ps), .int (ph), .int (pt), .int (pm)])), (ro i, .inr (1, [.ref a, .int (nI n), .int (ch)])), (a, .inl (cI, 60, .inl (f)))]) (fun v w => v = some (.int (-4)) ∧ w = [(h, .inr (2, [.ref qr, .ref qp, .int (nI md), .int (r0), .int (r1), .int (r2), .int (r3 + nI 1)])), (qp, .inl (cP, 4, .inr (.inr (.inr (.inr (fun i => some (po i))))))), (po p, .inr (0, [.ref (ro i), .int (pa), .int (ps), .int (ph), .int (pt), .int (pm)])), (ro i, .inr (1, [.ref a, .int (nI n), .int (ch)])), (a, .inl (cI, 60, .inl (f)))]) := by
  refine pw_ofm (cc := cX2_previous) (maxL := 2) (ret := (some .int)) (own := RX2) (by decide +kernel) rfl rfl (Nat.le_of_ble_eq_true rfl) ?_
  intro p_ e_ s m bel meth cd A hE hK hP hD hA hS ls hl
  obtain ⟨hx, hb, hr, hml, hown, hts, hlocks⟩ := hE
  have hNW := hK.2
  have hl : lv_has ls 2 [(0, .ref h), (1, .int (nI p))] := hl
  refine lv_aload_n hx hb dX2_previous_0 rfl (lv_at hl 0 rfl) ?_
  refine lv_iload_n hx hb dX2_previous_1 rfl (lv_at hl 1 rfl) ?_
  refine lv_iconst (v := nI 0) hx hb dX2_previous_2 (by decide) ?_
  -- c_go_o
  refine pw_cVm (As := [.int (nI p), .int (nI 0)]) (rest := []) (wc := [(h, .inr (2, [.ref qr, .ref qp, .int (nI md), .int (r0), .int (r1), .int (r2), .int (r3)])), (qp, .inl (cP, 4, .inr (.inr (.inr (.inr (fun i => some (po i))))))), (po p, .inr (0, [.ref (ro i), .int (pa), .int (ps), .int (ph), .int (pt), .int (pm)])), (ro i, .inr (1, [.ref a, .int (nI n), .int (ch)])), (a, .inl (cI, 60, .inl (f)))]) (wr := []) ⟨hx, hb, hml, hown, hts⟩ (c_go_o l D cI cP cR h qr qp md r0 r1 r2 r3 po ro p i a n ch f pa ps ph pt pm (by omega) (by omega) (by omega) (nI 0) ho) (cwV 2 hts gX2_previous_X2_goOver rfl rfl rfl (by decide +kernel) ⟨Nat.le_of_ble_eq_true rfl, Nat.le_of_ble_eq_true rfl⟩) hK hP hD hS hA [0, 1, 2, 3, 4] [] rfl rfl (by decide) (by decide) (by decide) 0 rfl rfl rfl rfl hl.1 rfl (Nat.le_of_ble_eq_true rfl) dX2_previous_3 ⟨Nat.zero_le _, Nat.zero_le _⟩ (fun v1 w1 H locs hq hP hD hS => ?_)
  rcases hq with ⟨rfl, rfl⟩
  have hP : va_P D vwCl ([(h, .inr (2, [.ref qr, .ref qp, .int (nI md), .int (r0), .int (r1), .int (r2), .int (r3 + nI 1)])), (qp, .inl (cP, 4, .inr (.inr (.inr (.inr (fun i => some (po i))))))), (po p, .inr (0, [.ref (ro i), .int (pa), .int (ps), .int (ph), .int (pt), .int (pm)])), (ro i, .inr (1, [.ref a, .int (nI n), .int (ch)])), (a, .inl (cI, 60, .inl (f)))]) H := hP
  have hD : va_D A ([(h, .inr (2, [.ref qr, .ref qp, .int (nI md), .int (r0), .int (r1), .int (r2), .int (r3 + nI 1)])), (qp, .inl (cP, 4, .inr (.inr (.inr (.inr (fun i => some (po i))))))), (po p, .inr (0, [.ref (ro i), .int (pa), .int (ps), .int (ph), .int (pt), .int (pm)])), (ro i, .inr (1, [.ref a, .int (nI n), .int (ch)])), (a, .inl (cI, 60, .inl (f)))]) := hD
  refine W.eq (g2 := F0 m 6 ls [.int (-4)]) rfl ?_
  exact pw_iret hx hb hr (rfl) hlocks dX2_previous_6 hS hP hD (⟨rfl, rfl⟩)
set_option maxHeartbeats 4000000 in
set_option maxRecDepth 100000 in
theorem k_previous_e (l : Launch) (D : va_G) (cI cP cR : ClassId) (h qr qp md : Nat) (r0 r1 r2 r3 : Int32) (po ro : Nat → Nat) (p i a n : Nat) (ch : Int32) (f : Nat → Int32) (pa ps ph pt pm : Int32) (hp4 : p < 4) (hi : i < 3) (hn : n ≤ 60) (ho : ps = ch) (hw : 0 ≤ pa ∧ pa ≤ nI n) (hq : ¬ (0 ≤ pa - nI 1 ∧ pa - nI 1 < nI n)) : pw_Mm l yX2_previous wsX2_previous ({ frames := 3, cells := 0, slots := 0, locals := 70 } : Room) D cI cP cR [.ref h, .int (nI p)] ([(h, .inr (2, [.ref qr, .ref qp, .int (nI md), .int (r0), .int (r1), .int (r2), .int (r3)])), (qp, .inl (cP, 4, .inr (.inr (.inr (.inr (fun i => some (po i))))))), (po p, .inr (0, [.ref (ro i), .int (pa), .int (ps), .int (ph), .int (pt), .int (pm)])), (ro i, .inr (1, [.ref a, .int (nI n), .int (ch)])), (a, .inl (cI, 60, .inl (f)))]) (fun v w => v = some (.int (-6)) ∧ w = [(h, .inr (2, [.ref qr, .ref qp, .int (nI md), .int (r0 + nI 1), .int (r1), .int (r2), .int (r3)])), (qp, .inl (cP, 4, .inr (.inr (.inr (.inr (fun i => some (po i))))))), (po p, .inr (0, [.ref (ro i), .int (pa), .int (ps), .int (ph), .int (pt), .int (nI 1)])), (ro i, .inr (1, [.ref a, .int (nI n), .int (ch)])), (a, .inl (cI, 60, .inl (f)))]) := by
  refine pw_ofm (cc := cX2_previous) (maxL := 2) (ret := (some .int)) (own := RX2) (by decide +kernel) rfl rfl (Nat.le_of_ble_eq_true rfl) ?_
  intro p_ e_ s m bel meth cd A hE hK hP hD hA hS ls hl
  obtain ⟨hx, hb, hr, hml, hown, hts, hlocks⟩ := hE
  have hNW := hK.2
  have hl : lv_has ls 2 [(0, .ref h), (1, .int (nI p))] := hl
  refine lv_aload_n hx hb dX2_previous_0 rfl (lv_at hl 0 rfl) ?_
  refine lv_iload_n hx hb dX2_previous_1 rfl (lv_at hl 1 rfl) ?_
  refine lv_iconst (v := nI 0) hx hb dX2_previous_2 (by decide) ?_
  -- c_go_e0
  refine pw_cVm (As := [.int (nI p), .int (nI 0)]) (rest := []) (wc := [(h, .inr (2, [.ref qr, .ref qp, .int (nI md), .int (r0), .int (r1), .int (r2), .int (r3)])), (qp, .inl (cP, 4, .inr (.inr (.inr (.inr (fun i => some (po i))))))), (po p, .inr (0, [.ref (ro i), .int (pa), .int (ps), .int (ph), .int (pt), .int (pm)])), (ro i, .inr (1, [.ref a, .int (nI n), .int (ch)])), (a, .inl (cI, 60, .inl (f)))]) (wr := []) ⟨hx, hb, hml, hown, hts⟩ (c_go_e0 l D cI cP cR h qr qp md r0 r1 r2 r3 po ro p i a n ch f pa ps ph pt pm (by omega) (by omega) (by omega) ho hw hq) (cwV 2 hts gX2_previous_X2_goOver rfl rfl rfl (by decide +kernel) ⟨Nat.le_of_ble_eq_true rfl, Nat.le_of_ble_eq_true rfl⟩) hK hP hD hS hA [0, 1, 2, 3, 4] [] rfl rfl (by decide) (by decide) (by decide) 0 rfl rfl rfl rfl hl.1 rfl (Nat.le_of_ble_eq_true rfl) dX2_previous_3 ⟨Nat.zero_le _, Nat.zero_le _⟩ (fun v1 w1 H locs hq hP hD hS => ?_)
  rcases hq with ⟨rfl, rfl⟩
  have hP : va_P D vwCl ([(h, .inr (2, [.ref qr, .ref qp, .int (nI md), .int (r0 + nI 1), .int (r1), .int (r2), .int (r3)])), (qp, .inl (cP, 4, .inr (.inr (.inr (.inr (fun i => some (po i))))))), (po p, .inr (0, [.ref (ro i), .int (pa), .int (ps), .int (ph), .int (pt), .int (nI 1)])), (ro i, .inr (1, [.ref a, .int (nI n), .int (ch)])), (a, .inl (cI, 60, .inl (f)))]) H := hP
  have hD : va_D A ([(h, .inr (2, [.ref qr, .ref qp, .int (nI md), .int (r0 + nI 1), .int (r1), .int (r2), .int (r3)])), (qp, .inl (cP, 4, .inr (.inr (.inr (.inr (fun i => some (po i))))))), (po p, .inr (0, [.ref (ro i), .int (pa), .int (ps), .int (ph), .int (pt), .int (nI 1)])), (ro i, .inr (1, [.ref a, .int (nI n), .int (ch)])), (a, .inl (cI, 60, .inl (f)))]) := hD
  refine W.eq (g2 := F0 m 6 ls [.int (-6)]) rfl ?_
  exact pw_iret hx hb hr (rfl) hlocks dX2_previous_6 hS hP hD (⟨rfl, rfl⟩)
set_option maxHeartbeats 4000000 in
set_option maxRecDepth 100000 in
theorem k_previous (l : Launch) (D : va_G) (cI cP cR : ClassId) (h qr qp md : Nat) (r0 r1 r2 r3 : Int32) (po ro : Nat → Nat) (p i a n : Nat) (ch : Int32) (f : Nat → Int32) (pa ps ph pt pm : Int32) (hp4 : p < 4) (hi : i < 3) (hn : n ≤ 60) (ho : ps = ch) (q : Nat) (hq : q < n) : pw_Mm l yX2_previous wsX2_previous ({ frames := 3, cells := 0, slots := 0, locals := 70 } : Room) D cI cP cR [.ref h, .int (nI p)] ([(h, .inr (2, [.ref qr, .ref qp, .int (nI md), .int (r0), .int (r1), .int (r2), .int (r3)])), (qp, .inl (cP, 4, .inr (.inr (.inr (.inr (fun i => some (po i))))))), (po p, .inr (0, [.ref (ro i), .int (nI (q + 1)), .int (ps), .int (ph), .int (pt), .int (pm)])), (ro i, .inr (1, [.ref a, .int (nI n), .int (ch)])), (a, .inl (cI, 60, .inl (f)))]) (fun v w => v = some (.int (f q)) ∧ w = [(h, .inr (2, [.ref qr, .ref qp, .int (nI md), .int (r0), .int (r1), .int (r2), .int (r3)])), (qp, .inl (cP, 4, .inr (.inr (.inr (.inr (fun i => some (po i))))))), (po p, .inr (0, [.ref (ro i), .int (nI q), .int (ps), .int (nI q), .int (f q), .int (nI 0)])), (ro i, .inr (1, [.ref a, .int (nI n), .int (ch)])), (a, .inl (cI, 60, .inl (f)))]) := by
  refine pw_ofm (cc := cX2_previous) (maxL := 2) (ret := (some .int)) (own := RX2) (by decide +kernel) rfl rfl (Nat.le_of_ble_eq_true rfl) ?_
  intro p_ e_ s m bel meth cd A hE hK hP hD hA hS ls hl
  obtain ⟨hx, hb, hr, hml, hown, hts, hlocks⟩ := hE
  have hNW := hK.2
  have hl : lv_has ls 2 [(0, .ref h), (1, .int (nI p))] := hl
  refine lv_aload_n hx hb dX2_previous_0 rfl (lv_at hl 0 rfl) ?_
  refine lv_iload_n hx hb dX2_previous_1 rfl (lv_at hl 1 rfl) ?_
  refine lv_iconst (v := nI 0) hx hb dX2_previous_2 (by decide) ?_
  -- c_go_0
  refine pw_cVm (As := [.int (nI p), .int (nI 0)]) (rest := []) (wc := [(h, .inr (2, [.ref qr, .ref qp, .int (nI md), .int (r0), .int (r1), .int (r2), .int (r3)])), (qp, .inl (cP, 4, .inr (.inr (.inr (.inr (fun i => some (po i))))))), (po p, .inr (0, [.ref (ro i), .int (nI (q + 1)), .int (ps), .int (ph), .int (pt), .int (pm)])), (ro i, .inr (1, [.ref a, .int (nI n), .int (ch)])), (a, .inl (cI, 60, .inl (f)))]) (wr := []) ⟨hx, hb, hml, hown, hts⟩ (c_go_0 l D cI cP cR h qr qp md r0 r1 r2 r3 po ro p i a n ch f pa ps ph pt pm (by omega) (by omega) (by omega) ho q hq) (cwV 2 hts gX2_previous_X2_goOver rfl rfl rfl (by decide +kernel) ⟨Nat.le_of_ble_eq_true rfl, Nat.le_of_ble_eq_true rfl⟩) hK hP hD hS hA [0, 1, 2, 3, 4] [] rfl rfl (by decide) (by decide) (by decide) 0 rfl rfl rfl rfl hl.1 rfl (Nat.le_of_ble_eq_true rfl) dX2_previous_3 ⟨Nat.zero_le _, Nat.zero_le _⟩ (fun v1 w1 H locs hq hP hD hS => ?_)
  rcases hq with ⟨rfl, rfl⟩
  have hP : va_P D vwCl ([(h, .inr (2, [.ref qr, .ref qp, .int (nI md), .int (r0), .int (r1), .int (r2), .int (r3)])), (qp, .inl (cP, 4, .inr (.inr (.inr (.inr (fun i => some (po i))))))), (po p, .inr (0, [.ref (ro i), .int (nI q), .int (ps), .int (nI q), .int (f q), .int (nI 0)])), (ro i, .inr (1, [.ref a, .int (nI n), .int (ch)])), (a, .inl (cI, 60, .inl (f)))]) H := hP
  have hD : va_D A ([(h, .inr (2, [.ref qr, .ref qp, .int (nI md), .int (r0), .int (r1), .int (r2), .int (r3)])), (qp, .inl (cP, 4, .inr (.inr (.inr (.inr (fun i => some (po i))))))), (po p, .inr (0, [.ref (ro i), .int (nI q), .int (ps), .int (nI q), .int (f q), .int (nI 0)])), (ro i, .inr (1, [.ref a, .int (nI n), .int (ch)])), (a, .inl (cI, 60, .inl (f)))]) := hD
  refine W.eq (g2 := F0 m 6 ls [.int (f q)]) rfl ?_
  exact pw_iret hx hb hr (rfl) hlocks dX2_previous_6 hS hP hD (⟨rfl, rfl⟩)
