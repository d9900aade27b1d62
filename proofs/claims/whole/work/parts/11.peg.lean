set_option maxHeartbeats 4000000 in
set_option maxRecDepth 100000 in
theorem k_side_x (l : Launch) (D : va_G) (cI cP cR : ClassId) (h qr qp md : Nat) (r0 r1 r2 r3 : Int32) (po : Nat → Nat) (peg wh : Int32) (hbad : ¬ ((0 ≤ peg ∧ peg < nI 4) ∧ (0 ≤ wh ∧ wh ≤ nI 3))) : pw_Mp l yX2_side wsX2_side ({ frames := 2, cells := 0, slots := 0, locals := 45 } : Room) D cI cP cR [.ref h, .int (peg), .int (wh)] ([(h, .inr (2, [.ref qr, .ref qp, .int (nI md), .int (r0), .int (r1), .int (r2), .int (r3)])), (qp, .inl (cP, 4, .inr (.inr (.inr (.inr (fun i => some (po i)))))))]) (.int (-1)) := by
  refine pw_ofp (cc := cX2_side) (maxL := 5) (ret := (some .int)) (own := RX2) (by decide +kernel) rfl rfl (Nat.le_of_ble_eq_true rfl) ?_
  intro p_ e_ s m bel meth cd hE hK hP hD ls hl
  obtain ⟨hx, hb, hr, hml, hown, hts, hlocks⟩ := hE
  have hNW := hK.2
  have hl : lv_has ls 5 [(0, .ref h), (1, .int (peg)), (2, .int (wh))] := hl
  by_cases hx_peg : 0 ≤ peg ∧ peg < nI 4
  · obtain ⟨pj_1, hpj_1, rfl⟩ := pw_inP (by decide) hx_peg
    refine lv_aload_n hx hb dX2_side_0 rfl (lv_at hl 0 rfl) ?_
    refine lv_iload_n hx hb dX2_side_1 rfl (lv_at hl 1 rfl) ?_
    -- c_pegOf_i
    refine pw_cVp (As := [.int (nI pj_1)]) (rest := []) (wc := [(h, .inr (2, [.ref qr, .ref qp, .int (nI md), .int (r0), .int (r1), .int (r2), .int (r3)])), (qp, .inl (cP, 4, .inr (.inr (.inr (.inr (fun i => some (po i)))))))]) ⟨hx, hb, hml, hown, hts⟩ (c_pegOf_i l D cI cP cR h qr qp md r0 r1 r2 r3 po pj_1 (by omega)) (cwV 1 hts gX2_side_X2_pegOf rfl rfl rfl (by decide +kernel) ⟨Nat.le_of_ble_eq_true rfl, Nat.le_of_ble_eq_true rfl⟩) hK hP hD [0, 1] rfl (by decide) 0 rfl rfl rfl rfl hl.1 rfl (Nat.le_of_ble_eq_true rfl) dX2_side_2 ⟨Nat.zero_le _, Nat.zero_le _⟩ ?_
    refine lv_astore_n (lv' := [(3, .ref (po pj_1)), (0, .ref h), (1, .int (nI pj_1)), (2, .int (wh))]) hx hb dX2_side_5 rfl hl (by decide) rfl (fun ls hl => ?_)
    refine lv_aload_n hx hb dX2_side_6 rfl (lv_at hl 0 rfl) ?_
    refine lv_ifnull hx hb dX2_side_7 ?_
    refine lv_iload_n hx hb dX2_side_10 rfl (lv_at hl 3 rfl) ?_
    refine lv_if_lt (tgt := 19) hx hb dX2_side_11 (by decide) (fun c_2 => ?_) (fun c_2 => ?_)
    · have _h := c_2
      refine lv_iconst (v := -1) hx hb dX2_side_19 (by decide) ?_
      exact pw_piret hx hb hr (rfl) hlocks dX2_side_20 (rfl)
    · have _h := c_2
      refine lv_iload_n hx hb dX2_side_14 rfl (lv_at hl 3 rfl) ?_
      refine lv_iconst (v := nI 3) hx hb dX2_side_15 (by decide) ?_
      refine lv_icmp_le (tgt := 21) hx hb dX2_side_16 (by decide) (fun c_3 => ?_) (fun c_3 => ?_)
      · exact absurd ⟨hx_peg, Int32.not_lt.mp c_2, c_3⟩ hbad
      · have _h := c_3
        refine lv_iconst (v := -1) hx hb dX2_side_19 (by decide) ?_
        exact pw_piret hx hb hr (rfl) hlocks dX2_side_20 (rfl)
  · have _h := hx_peg
    refine lv_aload_n hx hb dX2_side_0 rfl (lv_at hl 0 rfl) ?_
    refine lv_iload_n hx hb dX2_side_1 rfl (lv_at hl 1 rfl) ?_
    -- c_pegOf_n
    refine pw_cVp (As := [.int (peg)]) (rest := []) (wc := [(h, .inr (2, [.ref qr, .ref qp, .int (nI md), .int (r0), .int (r1), .int (r2), .int (r3)])), (qp, .inl (cP, 4, .inr (.inr (.inr (.inr (fun i => some (po i)))))))]) ⟨hx, hb, hml, hown, hts⟩ (c_pegOf_n l D cI cP cR h qr qp md r0 r1 r2 r3 po peg hx_peg) (cwV 1 hts gX2_side_X2_pegOf rfl rfl rfl (by decide +kernel) ⟨Nat.le_of_ble_eq_true rfl, Nat.le_of_ble_eq_true rfl⟩) hK hP hD [0, 1] rfl (by decide) 0 rfl rfl rfl rfl hl.1 rfl (Nat.le_of_ble_eq_true rfl) dX2_side_2 ⟨Nat.zero_le _, Nat.zero_le _⟩ ?_
    refine lv_astore_nN (lv' := [(3, .null), (0, .ref h), (1, .int (peg)), (2, .int (wh))]) hx hb dX2_side_5 rfl hl (by decide) rfl (fun ls hl => ?_)
    refine lv_aload_nN hx hb dX2_side_6 rfl (lv_at hl 0 rfl) ?_
    refine lv_ifnullN (tgt := 19) hx hb dX2_side_7 (by decide) ?_
    refine lv_iconst (v := -1) hx hb dX2_side_19 (by decide) ?_
    exact pw_piret hx hb hr (rfl) hlocks dX2_side_20 (rfl)
theorem hi_X2_side_0 : ∀ w ∈ u_ws RX0 TX0 6, w ∈ wsX2_side := by decide +kernel
set_option maxHeartbeats 4000000 in
set_option maxRecDepth 100000 in
theorem k_side_n (l : Launch) (D : va_G) (cI cP cR : ClassId) (h qr qp md : Nat) (r0 r1 r2 r3 : Int32) (po : Nat → Nat) (p : Nat) (pa ps ph pt pm : Int32) (hp4 : p < 4) (wh : Nat) (hw : wh ≤ 3) : pw_Mp l yX2_side wsX2_side ({ frames := 2, cells := 0, slots := 0, locals := 45 } : Room) D cI cP cR [.ref h, .int (nI p), .int (nI wh)] ([(h, .inr (2, [.ref qr, .ref qp, .int (nI md), .int (r0), .int (r1), .int (r2), .int (r3)])), (qp, .inl (cP, 4, .inr (.inr (.inr (.inr (fun i => some (po i))))))), (po p, .inr (0, [.null, .int (pa), .int (ps), .int (ph), .int (pt), .int (pm)]))]) (.int (-2)) := by
  refine pw_ofp (cc := cX2_side) (maxL := 5) (ret := (some .int)) (own := RX2) (by decide +kernel) rfl rfl (Nat.le_of_ble_eq_true rfl) ?_
  intro p_ e_ s m bel meth cd hE hK hP hD ls hl
  obtain ⟨hx, hb, hr, hml, hown, hts, hlocks⟩ := hE
  have hNW := hK.2
  have hl : lv_has ls 5 [(0, .ref h), (1, .int (nI p)), (2, .int (nI wh))] := hl
  refine lv_aload_n hx hb dX2_side_0 rfl (lv_at hl 0 rfl) ?_
  refine lv_iload_n hx hb dX2_side_1 rfl (lv_at hl 1 rfl) ?_
  -- c_pegOf_i
  refine pw_cVp (As := [.int (nI p)]) (rest := []) (wc := [(h, .inr (2, [.ref qr, .ref qp, .int (nI md), .int (r0), .int (r1), .int (r2), .int (r3)])), (qp, .inl (cP, 4, .inr (.inr (.inr (.inr (fun i => some (po i)))))))]) ⟨hx, hb, hml, hown, hts⟩ (c_pegOf_i l D cI cP cR h qr qp md r0 r1 r2 r3 po p (by omega)) (cwV 1 hts gX2_side_X2_pegOf rfl rfl rfl (by decide +kernel) ⟨Nat.le_of_ble_eq_true rfl, Nat.le_of_ble_eq_true rfl⟩) hK hP hD [0, 1] rfl (by decide) 0 rfl rfl rfl rfl hl.1 rfl (Nat.le_of_ble_eq_true rfl) dX2_side_2 ⟨Nat.zero_le _, Nat.zero_le _⟩ ?_
  refine lv_astore_n (lv' := [(3, .ref (po p)), (0, .ref h), (1, .int (nI p)), (2, .int (nI wh))]) hx hb dX2_side_5 rfl hl (by decide) rfl (fun ls hl => ?_)
  refine lv_aload_n hx hb dX2_side_6 rfl (lv_at hl 0 rfl) ?_
  refine lv_ifnull hx hb dX2_side_7 ?_
  refine lv_iload_n hx hb dX2_side_10 rfl (lv_at hl 3 rfl) ?_
  refine pw_if_lt (tgt := 19) hx hb (by omega) dX2_side_11 (by decide) ?_
  refine lv_iload_n hx hb dX2_side_14 rfl (lv_at hl 3 rfl) ?_
  refine lv_iconst (v := nI 3) hx hb dX2_side_15 (by decide) ?_
  refine pw_icmp_le (tgt := 21) hx hb (by omega) (by omega) dX2_side_16 (by decide) (fun c_1 => ?_) (fun c_1 => ?_)
  · have _h := c_1
    refine lv_aload_n hx hb dX2_side_21 rfl (lv_at hl 0 rfl) ?_
    refine va_getN (D := D) (ci := 0) (v := .null) (C := RX0) (T := TX0) (N := 6) hx hb hts hi_X2_side_0 hown hK.1 hP 2 rfl rfl 0 (by decide) (va_Nw.use rfl hNW.2.1) (fun _ h9 => h9) rfl dX2_side_22 ?_
    refine lv_astoreN (lv' := [(4, .null), (3, .ref (po p)), (0, .ref h), (1, .int (nI p)), (2, .int (nI wh))]) hx hb dX2_side_25 hl (by decide) rfl (fun ls hl => ?_)
    refine lv_aloadN hx hb dX2_side_27 (lv_at hl 0 rfl) ?_
    refine lv_ifnonnullN hx hb dX2_side_29 ?_
    refine lv_bipush (v := -2) hx hb dX2_side_32 (by decide) ?_
    exact pw_piret hx hb hr (rfl) hlocks dX2_side_34 (rfl)
  · exact absurd c_1 (by omega)
set_option maxHeartbeats 4000000 in
set_option maxRecDepth 100000 in
theorem k_side_o (l : Launch) (D : va_G) (cI cP cR : ClassId) (h qr qp md : Nat) (r0 r1 r2 r3 : Int32) (po ro : Nat → Nat) (p i a n : Nat) (ch : Int32) (f : Nat → Int32) (pa ps ph pt pm : Int32) (hp4 : p < 4) (hi : i < 3) (hn : n ≤ 60) (ho : ¬ ps = ch) (wh : Nat) (hw : wh ≤ 3) : pw_Mp l yX2_side wsX2_side ({ frames := 2, cells := 0, slots := 0, locals := 45 } : Room) D cI cP cR [.ref h, .int (nI p), .int (nI wh)] ([(h, .inr (2, [.ref qr, .ref qp, .int (nI md), .int (r0), .int (r1), .int (r2), .int (r3)])), (qp, .inl (cP, 4, .inr (.inr (.inr (.inr (fun i => some (po i))))))), (po p, .inr (0, [.ref (ro i), .int (pa), .int (ps), .int (ph), .int (pt), .int (pm)])), (ro i, .inr (1, [.ref a, .int (nI n), .int (ch)])), (a, .inl (cI, 60, .inl (f)))]) (.int (-4)) := by
  refine pw_ofp (cc := cX2_side) (maxL := 5) (ret := (some .int)) (own := RX2) (by decide +kernel) rfl rfl (Nat.le_of_ble_eq_true rfl) ?_
  intro p_ e_ s m bel meth cd hE hK hP hD ls hl
  obtain ⟨hx, hb, hr, hml, hown, hts, hlocks⟩ := hE
  have hNW := hK.2
  have hl : lv_has ls 5 [(0, .ref h), (1, .int (nI p)), (2, .int (nI wh))] := hl
  refine lv_aload_n hx hb dX2_side_0 rfl (lv_at hl 0 rfl) ?_
  refine lv_iload_n hx hb dX2_side_1 rfl (lv_at hl 1 rfl) ?_
  -- c_pegOf_i
  refine pw_cVp (As := [.int (nI p)]) (rest := []) (wc := [(h, .inr (2, [.ref qr, .ref qp, .int (nI md), .int (r0), .int (r1), .int (r2), .int (r3)])), (qp, .inl (cP, 4, .inr (.inr (.inr (.inr (fun i => some (po i)))))))]) ⟨hx, hb, hml, hown, hts⟩ (c_pegOf_i l D cI cP cR h qr qp md r0 r1 r2 r3 po p (by omega)) (cwV 1 hts gX2_side_X2_pegOf rfl rfl rfl (by decide +kernel) ⟨Nat.le_of_ble_eq_true rfl, Nat.le_of_ble_eq_true rfl⟩) hK hP hD [0, 1] rfl (by decide) 0 rfl rfl rfl rfl hl.1 rfl (Nat.le_of_ble_eq_true rfl) dX2_side_2 ⟨Nat.zero_le _, Nat.zero_le _⟩ ?_
  refine lv_astore_n (lv' := [(3, .ref (po p)), (0, .ref h), (1, .int (nI p)), (2, .int (nI wh))]) hx hb dX2_side_5 rfl hl (by decide) rfl (fun ls hl => ?_)
  refine lv_aload_n hx hb dX2_side_6 rfl (lv_at hl 0 rfl) ?_
  refine lv_ifnull hx hb dX2_side_7 ?_
  refine lv_iload_n hx hb dX2_side_10 rfl (lv_at hl 3 rfl) ?_
  refine pw_if_lt (tgt := 19) hx hb (by omega) dX2_side_11 (by decide) ?_
  refine lv_iload_n hx hb dX2_side_14 rfl (lv_at hl 3 rfl) ?_
  refine lv_iconst (v := nI 3) hx hb dX2_side_15 (by decide) ?_
  refine pw_icmp_le (tgt := 21) hx hb (by omega) (by omega) dX2_side_16 (by decide) (fun c_1 => ?_) (fun c_1 => ?_)
  · have _h := c_1
    refine lv_aload_n hx hb dX2_side_21 rfl (lv_at hl 0 rfl) ?_
    refine va_getN (D := D) (ci := 0) (v := .ref (ro i)) (C := RX0) (T := TX0) (N := 6) hx hb hts hi_X2_side_0 hown hK.1 hP 2 rfl rfl 0 (by decide) (va_Nw.use rfl hNW.2.1) (fun _ h9 => h9) rfl dX2_side_22 ?_
    refine lv_astore (lv' := [(4, .ref (ro i)), (3, .ref (po p)), (0, .ref h), (1, .int (nI p)), (2, .int (nI wh))]) hx hb dX2_side_25 hl (by decide) rfl (fun ls hl => ?_)
    refine lv_aload hx hb dX2_side_27 (lv_at hl 0 rfl) ?_
    refine lv_ifnonnull (tgt := 35) hx hb dX2_side_29 (by decide) ?_
    refine lv_aload_n hx hb dX2_side_35 rfl (lv_at hl 1 rfl) ?_
    -- c_isOld_o
    refine pw_cVp (As := []) (rest := []) (wc := [(po p, .inr (0, [.ref (ro i), .int (pa), .int (ps), .int (ph), .int (pt), .int (pm)])), (ro i, .inr (1, [.ref a, .int (nI n), .int (ch)])), (a, .inl (cI, 60, .inl (f)))]) ⟨hx, hb, hml, hown, hts⟩ (c_isOld_o l D cI cP cR (po p) pa ps ph pt pm (ro i) a n ch f ho) (cwV 0 hts gX2_side_X0_isOld rfl rfl rfl (by decide +kernel) ⟨Nat.le_of_ble_eq_true rfl, Nat.le_of_ble_eq_true rfl⟩) hK hP hD [2, 3, 4] rfl (by decide) 0 rfl rfl rfl rfl hl.1 rfl (Nat.le_of_ble_eq_true rfl) dX2_side_36 ⟨Nat.zero_le _, Nat.zero_le _⟩ ?_
    refine lv_if_eq (tgt := 45) hx hb dX2_side_39 (by decide) (fun c => absurd c (by decide)) (fun c => ?_)
    refine lv_bipush (v := -4) hx hb dX2_side_42 (by decide) ?_
    exact pw_piret hx hb hr (rfl) hlocks dX2_side_44 (rfl)
  · exact absurd c_1 (by omega)
theorem hi_X2_side_1 : ∀ w ∈ u_ws RX1 TX1 3, w ∈ wsX2_side := by decide +kernel
set_option maxHeartbeats 4000000 in
set_option maxRecDepth 100000 in
theorem k_side_0 (l : Launch) (D : va_G) (cI cP cR : ClassId) (h qr qp md : Nat) (r0 r1 r2 r3 : Int32) (po ro : Nat → Nat) (p i a n : Nat) (ch : Int32) (f : Nat → Int32) (pa ps ph pt pm : Int32) (hp4 : p < 4) (hi : i < 3) (hn : n ≤ 60) (ho : ps = ch) (q : Nat) (hq : q ≤ n) : pw_Mp l yX2_side wsX2_side ({ frames := 2, cells := 0, slots := 0, locals := 45 } : Room) D cI cP cR [.ref h, .int (nI p), .int (nI 0)] ([(h, .inr (2, [.ref qr, .ref qp, .int (nI md), .int (r0), .int (r1), .int (r2), .int (r3)])), (qp, .inl (cP, 4, .inr (.inr (.inr (.inr (fun i => some (po i))))))), (po p, .inr (0, [.ref (ro i), .int (nI q), .int (ps), .int (ph), .int (pt), .int (pm)])), (ro i, .inr (1, [.ref a, .int (nI n), .int (ch)])), (a, .inl (cI, 60, .inl (f)))]) (.int (if q < n then 1 else 0)) := by
  refine pw_ofp (cc := cX2_side) (maxL := 5) (ret := (some .int)) (own := RX2) (by decide +kernel) rfl rfl (Nat.le_of_ble_eq_true rfl) ?_
  intro p_ e_ s m bel meth cd hE hK hP hD ls hl
  obtain ⟨hx, hb, hr, hml, hown, hts, hlocks⟩ := hE
  have hNW := hK.2
  have hl : lv_has ls 5 [(0, .ref h), (1, .int (nI p)), (2, .int (nI 0))] := hl
  refine lv_aload_n hx hb dX2_side_0 rfl (lv_at hl 0 rfl) ?_
  refine lv_iload_n hx hb dX2_side_1 rfl (lv_at hl 1 rfl) ?_
  -- c_pegOf_i
  refine pw_cVp (As := [.int (nI p)]) (rest := []) (wc := [(h, .inr (2, [.ref qr, .ref qp, .int (nI md), .int (r0), .int (r1), .int (r2), .int (r3)])), (qp, .inl (cP, 4, .inr (.inr (.inr (.inr (fun i => some (po i)))))))]) ⟨hx, hb, hml, hown, hts⟩ (c_pegOf_i l D cI cP cR h qr qp md r0 r1 r2 r3 po p (by omega)) (cwV 1 hts gX2_side_X2_pegOf rfl rfl rfl (by decide +kernel) ⟨Nat.le_of_ble_eq_true rfl, Nat.le_of_ble_eq_true rfl⟩) hK hP hD [0, 1] rfl (by decide) 0 rfl rfl rfl rfl hl.1 rfl (Nat.le_of_ble_eq_true rfl) dX2_side_2 ⟨Nat.zero_le _, Nat.zero_le _⟩ ?_
  refine lv_astore_n (lv' := [(3, .ref (po p)), (0, .ref h), (1, .int (nI p)), (2, .int (nI 0))]) hx hb dX2_side_5 rfl hl (by decide) rfl (fun ls hl => ?_)
  refine lv_aload_n hx hb dX2_side_6 rfl (lv_at hl 0 rfl) ?_
  refine lv_ifnull hx hb dX2_side_7 ?_
  refine lv_iload_n hx hb dX2_side_10 rfl (lv_at hl 3 rfl) ?_
  refine lv_if_lt (tgt := 19) hx hb dX2_side_11 (by decide) (fun c => absurd c (by decide)) (fun c => ?_)
  refine lv_iload_n hx hb dX2_side_14 rfl (lv_at hl 3 rfl) ?_
  refine lv_iconst (v := nI 3) hx hb dX2_side_15 (by decide) ?_
  refine lv_icmp_le (tgt := 21) hx hb dX2_side_16 (by decide) (fun c => ?_) (fun c => absurd c (by decide))
  refine lv_aload_n hx hb dX2_side_21 rfl (lv_at hl 0 rfl) ?_
  refine va_getN (D := D) (ci := 0) (v := .ref (ro i)) (C := RX0) (T := TX0) (N := 6) hx hb hts hi_X2_side_0 hown hK.1 hP 2 rfl rfl 0 (by decide) (va_Nw.use rfl hNW.2.1) (fun _ h9 => h9) rfl dX2_side_22 ?_
  refine lv_astore (lv' := [(4, .ref (ro i)), (3, .ref (po p)), (0, .ref h), (1, .int (nI p)), (2, .int (nI 0))]) hx hb dX2_side_25 hl (by decide) rfl (fun ls hl => ?_)
  refine lv_aload hx hb dX2_side_27 (lv_at hl 0 rfl) ?_
  refine lv_ifnonnull (tgt := 35) hx hb dX2_side_29 (by decide) ?_
  refine lv_aload_n hx hb dX2_side_35 rfl (lv_at hl 1 rfl) ?_
  -- c_isOld_f
  refine pw_cVp (As := []) (rest := []) (wc := [(po p, .inr (0, [.ref (ro i), .int (nI q), .int (ps), .int (ph), .int (pt), .int (pm)])), (ro i, .inr (1, [.ref a, .int (nI n), .int (ch)])), (a, .inl (cI, 60, .inl (f)))]) ⟨hx, hb, hml, hown, hts⟩ (c_isOld_f l D cI cP cR (po p) (nI q) ps ph pt pm (ro i) a n ch f ho ⟨pw_ge0 (by omega), (pw_leN (by omega) (by omega)).mpr (by omega)⟩) (cwV 0 hts gX2_side_X0_isOld rfl rfl rfl (by decide +kernel) ⟨Nat.le_of_ble_eq_true rfl, Nat.le_of_ble_eq_true rfl⟩) hK hP hD [2, 3, 4] rfl (by decide) 0 rfl rfl rfl rfl hl.1 rfl (Nat.le_of_ble_eq_true rfl) dX2_side_36 ⟨Nat.zero_le _, Nat.zero_le _⟩ ?_
  refine lv_if_eq (tgt := 45) hx hb dX2_side_39 (by decide) (fun c => ?_) (fun c => absurd c (by decide))
  refine lv_iload_n hx hb dX2_side_45 rfl (lv_at hl 4 rfl) ?_
  refine lv_lookup (off := 26) (tgt := 72) hx hb dX2_side_46 (by decide) (by decide) (by decide) ?_
  refine lv_aload_n hx hb dX2_side_72 rfl (lv_at hl 1 rfl) ?_
  refine va_getN (D := D) (ci := 0) (v := .int (nI q)) (C := RX0) (T := TX0) (N := 6) hx hb hts hi_X2_side_0 hown hK.1 hP 2 rfl rfl 1 (by decide) (va_Nw.use rfl hNW.2.2.1) (fun _ h9 => h9) rfl dX2_side_73 ?_
  refine lv_aload hx hb dX2_side_76 (lv_at hl 0 rfl) ?_
  refine va_getN (D := D) (ci := 1) (v := .int (nI n)) (C := RX1) (T := TX1) (N := 3) hx hb hts hi_X2_side_1 hown hK.1 hP 3 rfl rfl 1 (by decide) (va_Nw.use rfl hNW.1) (fun _ h9 => h9) rfl dX2_side_78 ?_
  refine pw_icmp_ge (tgt := 88) hx hb (by omega) (by omega) dX2_side_81 (by decide) (fun c_1 => ?_) (fun c_1 => ?_)
  · have _h := c_1
    refine lv_iconst (v := nI 0) hx hb dX2_side_88 (by decide) ?_
    -- c_oneIf_0
    refine pw_cSp (As := [.int (nI 0)]) (rest := []) ⟨hx, hb, hml, hown, hts⟩ (c_oneIf_0 l D cI cP cR ) (va_cwS 1 hts gX2_side_X2_oneIf rfl rfl rfl (by decide +kernel) ⟨Nat.le_of_ble_eq_true rfl, Nat.le_of_ble_eq_true rfl⟩) hK rfl hl.1 rfl (Nat.le_of_ble_eq_true rfl) dX2_side_89 ⟨Nat.zero_le _, Nat.zero_le _⟩ ?_
    exact pw_piret hx hb hr (rfl) hlocks dX2_side_92 (by rw [if_neg (Nat.not_lt.mpr c_1)]; rfl)
  · have _h := c_1
    refine lv_iconst (v := nI 1) hx hb dX2_side_84 (by decide) ?_
    refine lv_goto (tgt := 89) hx hb dX2_side_85 (by decide) ?_
    -- c_oneIf_1
    refine pw_cSp (As := [.int (nI 1)]) (rest := []) ⟨hx, hb, hml, hown, hts⟩ (c_oneIf_1 l D cI cP cR ) (va_cwS 1 hts gX2_side_X2_oneIf rfl rfl rfl (by decide +kernel) ⟨Nat.le_of_ble_eq_true rfl, Nat.le_of_ble_eq_true rfl⟩) hK rfl hl.1 rfl (Nat.le_of_ble_eq_true rfl) dX2_side_89 ⟨Nat.zero_le _, Nat.zero_le _⟩ ?_
    exact pw_piret hx hb hr (rfl) hlocks dX2_side_92 (by rw [if_pos c_1]; rfl)
set_option maxHeartbeats 4000000 in
set_option maxRecDepth 100000 in
theorem k_side_1 (l : Launch) (D : va_G) (cI cP cR : ClassId) (h qr qp md : Nat) (r0 r1 r2 r3 : Int32) (po ro : Nat → Nat) (p i a n : Nat) (ch : Int32) (f : Nat → Int32) (pa ps ph pt pm : Int32) (hp4 : p < 4) (hi : i < 3) (hn : n ≤ 60) (ho : ps = ch) (q : Nat) (hq : q ≤ n) : pw_Mp l yX2_side wsX2_side ({ frames := 2, cells := 0, slots := 0, locals := 45 } : Room) D cI cP cR [.ref h, .int (nI p), .int (nI 1)] ([(h, .inr (2, [.ref qr, .ref qp, .int (nI md), .int (r0), .int (r1), .int (r2), .int (r3)])), (qp, .inl (cP, 4, .inr (.inr (.inr (.inr (fun i => some (po i))))))), (po p, .inr (0, [.ref (ro i), .int (nI q), .int (ps), .int (ph), .int (pt), .int (pm)])), (ro i, .inr (1, [.ref a, .int (nI n), .int (ch)])), (a, .inl (cI, 60, .inl (f)))]) (.int (if q = 0 then 0 else 1)) := by
  refine pw_ofp (cc := cX2_side) (maxL := 5) (ret := (some .int)) (own := RX2) (by decide +kernel) rfl rfl (Nat.le_of_ble_eq_true rfl) ?_
  intro p_ e_ s m bel meth cd hE hK hP hD ls hl
  obtain ⟨hx, hb, hr, hml, hown, hts, hlocks⟩ := hE
  have hNW := hK.2
  have hl : lv_has ls 5 [(0, .ref h), (1, .int (nI p)), (2, .int (nI 1))] := hl
  refine lv_aload_n hx hb dX2_side_0 rfl (lv_at hl 0 rfl) ?_
  refine lv_iload_n hx hb dX2_side_1 rfl (lv_at hl 1 rfl) ?_
  -- c_pegOf_i
  refine pw_cVp (As := [.int (nI p)]) (rest := []) (wc := [(h, .inr (2, [.ref qr, .ref qp, .int (nI md), .int (r0), .int (r1), .int (r2), .int (r3)])), (qp, .inl (cP, 4, .inr (.inr (.inr (.inr (fun i => some (po i)))))))]) ⟨hx, hb, hml, hown, hts⟩ (c_pegOf_i l D cI cP cR h qr qp md r0 r1 r2 r3 po p (by omega)) (cwV 1 hts gX2_side_X2_pegOf rfl rfl rfl (by decide +kernel) ⟨Nat.le_of_ble_eq_true rfl, Nat.le_of_ble_eq_true rfl⟩) hK hP hD [0, 1] rfl (by decide) 0 rfl rfl rfl rfl hl.1 rfl (Nat.le_of_ble_eq_true rfl) dX2_side_2 ⟨Nat.zero_le _, Nat.zero_le _⟩ ?_
  refine lv_astore_n (lv' := [(3, .ref (po p)), (0, .ref h), (1, .int (nI p)), (2, .int (nI 1))]) hx hb dX2_side_5 rfl hl (by decide) rfl (fun ls hl => ?_)
  refine lv_aload_n hx hb dX2_side_6 rfl (lv_at hl 0 rfl) ?_
  refine lv_ifnull hx hb dX2_side_7 ?_
  refine lv_iload_n hx hb dX2_side_10 rfl (lv_at hl 3 rfl) ?_
  refine lv_if_lt (tgt := 19) hx hb dX2_side_11 (by decide) (fun c => absurd c (by decide)) (fun c => ?_)
  refine lv_iload_n hx hb dX2_side_14 rfl (lv_at hl 3 rfl) ?_
  refine lv_iconst (v := nI 3) hx hb dX2_side_15 (by decide) ?_
  refine lv_icmp_le (tgt := 21) hx hb dX2_side_16 (by decide) (fun c => ?_) (fun c => absurd c (by decide))
  refine lv_aload_n hx hb dX2_side_21 rfl (lv_at hl 0 rfl) ?_
  refine va_getN (D := D) (ci := 0) (v := .ref (ro i)) (C := RX0) (T := TX0) (N := 6) hx hb hts hi_X2_side_0 hown hK.1 hP 2 rfl rfl 0 (by decide) (va_Nw.use rfl hNW.2.1) (fun _ h9 => h9) rfl dX2_side_22 ?_
  refine lv_astore (lv' := [(4, .ref (ro i)), (3, .ref (po p)), (0, .ref h), (1, .int (nI p)), (2, .int (nI 1))]) hx hb dX2_side_25 hl (by decide) rfl (fun ls hl => ?_)
  refine lv_aload hx hb dX2_side_27 (lv_at hl 0 rfl) ?_
  refine lv_ifnonnull (tgt := 35) hx hb dX2_side_29 (by decide) ?_
  refine lv_aload_n hx hb dX2_side_35 rfl (lv_at hl 1 rfl) ?_
  -- c_isOld_f
  refine pw_cVp (As := []) (rest := []) (wc := [(po p, .inr (0, [.ref (ro i), .int (nI q), .int (ps), .int (ph), .int (pt), .int (pm)])), (ro i, .inr (1, [.ref a, .int (nI n), .int (ch)])), (a, .inl (cI, 60, .inl (f)))]) ⟨hx, hb, hml, hown, hts⟩ (c_isOld_f l D cI cP cR (po p) (nI q) ps ph pt pm (ro i) a n ch f ho ⟨pw_ge0 (by omega), (pw_leN (by omega) (by omega)).mpr (by omega)⟩) (cwV 0 hts gX2_side_X0_isOld rfl rfl rfl (by decide +kernel) ⟨Nat.le_of_ble_eq_true rfl, Nat.le_of_ble_eq_true rfl⟩) hK hP hD [2, 3, 4] rfl (by decide) 0 rfl rfl rfl rfl hl.1 rfl (Nat.le_of_ble_eq_true rfl) dX2_side_36 ⟨Nat.zero_le _, Nat.zero_le _⟩ ?_
  refine lv_if_eq (tgt := 45) hx hb dX2_side_39 (by decide) (fun c => ?_) (fun c => absurd c (by decide))
  refine lv_iload_n hx hb dX2_side_45 rfl (lv_at hl 4 rfl) ?_
  refine lv_lookup (off := 47) (tgt := 93) hx hb dX2_side_46 (by decide) (by decide) (by decide) ?_
  refine lv_aload_n hx hb dX2_side_93 rfl (lv_at hl 1 rfl) ?_
  refine va_getN (D := D) (ci := 0) (v := .int (nI q)) (C := RX0) (T := TX0) (N := 6) hx hb hts hi_X2_side_0 hown hK.1 hP 2 rfl rfl 1 (by decide) (va_Nw.use rfl hNW.2.2.1) (fun _ h9 => h9) rfl dX2_side_94 ?_
  refine pw_if_le (tgt := 104) hx hb (by omega) dX2_side_97 (by decide) (fun c_1 => ?_) (fun c_1 => ?_)
  · have _h := c_1
    refine lv_iconst (v := nI 0) hx hb dX2_side_104 (by decide) ?_
    -- c_oneIf_0
    refine pw_cSp (As := [.int (nI 0)]) (rest := []) ⟨hx, hb, hml, hown, hts⟩ (c_oneIf_0 l D cI cP cR ) (va_cwS 1 hts gX2_side_X2_oneIf rfl rfl rfl (by decide +kernel) ⟨Nat.le_of_ble_eq_true rfl, Nat.le_of_ble_eq_true rfl⟩) hK rfl hl.1 rfl (Nat.le_of_ble_eq_true rfl) dX2_side_105 ⟨Nat.zero_le _, Nat.zero_le _⟩ ?_
    exact pw_piret hx hb hr (rfl) hlocks dX2_side_108 (by rw [if_pos c_1]; rfl)
  · have _h := c_1
    refine lv_iconst (v := nI 1) hx hb dX2_side_100 (by decide) ?_
    refine lv_goto (tgt := 105) hx hb dX2_side_101 (by decide) ?_
    -- c_oneIf_1
    refine pw_cSp (As := [.int (nI 1)]) (rest := []) ⟨hx, hb, hml, hown, hts⟩ (c_oneIf_1 l D cI cP cR ) (va_cwS 1 hts gX2_side_X2_oneIf rfl rfl rfl (by decide +kernel) ⟨Nat.le_of_ble_eq_true rfl, Nat.le_of_ble_eq_true rfl⟩) hK rfl hl.1 rfl (Nat.le_of_ble_eq_true rfl) dX2_side_105 ⟨Nat.zero_le _, Nat.zero_le _⟩ ?_
    exact pw_piret hx hb hr (rfl) hlocks dX2_side_108 (by rw [if_neg (by omega)]; rfl)
set_option maxHeartbeats 4000000 in
set_option maxRecDepth 100000 in
theorem k_side_2 (l : Launch) (D : va_G) (cI cP cR : ClassId) (h qr qp md : Nat) (r0 r1 r2 r3 : Int32) (po ro : Nat → Nat) (p i a n : Nat) (ch : Int32) (f : Nat → Int32) (pa ps ph pt pm : Int32) (hp4 : p < 4) (hi : i < 3) (hn : n ≤ 60) (ho : ps = ch) (q : Nat) (hq : q ≤ n) : pw_Mp l yX2_side wsX2_side ({ frames := 2, cells := 0, slots := 0, locals := 45 } : Room) D cI cP cR [.ref h, .int (nI p), .int (nI 2)] ([(h, .inr (2, [.ref qr, .ref qp, .int (nI md), .int (r0), .int (r1), .int (r2), .int (r3)])), (qp, .inl (cP, 4, .inr (.inr (.inr (.inr (fun i => some (po i))))))), (po p, .inr (0, [.ref (ro i), .int (nI q), .int (ps), .int (ph), .int (pt), .int (pm)])), (ro i, .inr (1, [.ref a, .int (nI n), .int (ch)])), (a, .inl (cI, 60, .inl (f)))]) (.int (nI q)) := by
  refine pw_ofp (cc := cX2_side) (maxL := 5) (ret := (some .int)) (own := RX2) (by decide +kernel) rfl rfl (Nat.le_of_ble_eq_true rfl) ?_
  intro p_ e_ s m bel meth cd hE hK hP hD ls hl
  obtain ⟨hx, hb, hr, hml, hown, hts, hlocks⟩ := hE
  have hNW := hK.2
  have hl : lv_has ls 5 [(0, .ref h), (1, .int (nI p)), (2, .int (nI 2))] := hl
  refine lv_aload_n hx hb dX2_side_0 rfl (lv_at hl 0 rfl) ?_
  refine lv_iload_n hx hb dX2_side_1 rfl (lv_at hl 1 rfl) ?_
  -- c_pegOf_i
  refine pw_cVp (As := [.int (nI p)]) (rest := []) (wc := [(h, .inr (2, [.ref qr, .ref qp, .int (nI md), .int (r0), .int (r1), .int (r2), .int (r3)])), (qp, .inl (cP, 4, .inr (.inr (.inr (.inr (fun i => some (po i)))))))]) ⟨hx, hb, hml, hown, hts⟩ (c_pegOf_i l D cI cP cR h qr qp md r0 r1 r2 r3 po p (by omega)) (cwV 1 hts gX2_side_X2_pegOf rfl rfl rfl (by decide +kernel) ⟨Nat.le_of_ble_eq_true rfl, Nat.le_of_ble_eq_true rfl⟩) hK hP hD [0, 1] rfl (by decide) 0 rfl rfl rfl rfl hl.1 rfl (Nat.le_of_ble_eq_true rfl) dX2_side_2 ⟨Nat.zero_le _, Nat.zero_le _⟩ ?_
  refine lv_astore_n (lv' := [(3, .ref (po p)), (0, .ref h), (1, .int (nI p)), (2, .int (nI 2))]) hx hb dX2_side_5 rfl hl (by decide) rfl (fun ls hl => ?_)
  refine lv_aload_n hx hb dX2_side_6 rfl (lv_at hl 0 rfl) ?_
  refine lv_ifnull hx hb dX2_side_7 ?_
  refine lv_iload_n hx hb dX2_side_10 rfl (lv_at hl 3 rfl) ?_
  refine lv_if_lt (tgt := 19) hx hb dX2_side_11 (by decide) (fun c => absurd c (by decide)) (fun c => ?_)
  refine lv_iload_n hx hb dX2_side_14 rfl (lv_at hl 3 rfl) ?_
  refine lv_iconst (v := nI 3) hx hb dX2_side_15 (by decide) ?_
  refine lv_icmp_le (tgt := 21) hx hb dX2_side_16 (by decide) (fun c => ?_) (fun c => absurd c (by decide))
  refine lv_aload_n hx hb dX2_side_21 rfl (lv_at hl 0 rfl) ?_
  refine va_getN (D := D) (ci := 0) (v := .ref (ro i)) (C := RX0) (T := TX0) (N := 6) hx hb hts hi_X2_side_0 hown hK.1 hP 2 rfl rfl 0 (by decide) (va_Nw.use rfl hNW.2.1) (fun _ h9 => h9) rfl dX2_side_22 ?_
  refine lv_astore (lv' := [(4, .ref (ro i)), (3, .ref (po p)), (0, .ref h), (1, .int (nI p)), (2, .int (nI 2))]) hx hb dX2_side_25 hl (by decide) rfl (fun ls hl => ?_)
  refine lv_aload hx hb dX2_side_27 (lv_at hl 0 rfl) ?_
  refine lv_ifnonnull (tgt := 35) hx hb dX2_side_29 (by decide) ?_
  refine lv_aload_n hx hb dX2_side_35 rfl (lv_at hl 1 rfl) ?_
  -- c_isOld_f
  refine pw_cVp (As := []) (rest := []) (wc := [(po p, .inr (0, [.ref (ro i), .int (nI q), .int (ps), .int (ph), .int (pt), .int (pm)])), (ro i, .inr (1, [.ref a, .int (nI n), .int (ch)])), (a, .inl (cI, 60, .inl (f)))]) ⟨hx, hb, hml, hown, hts⟩ (c_isOld_f l D cI cP cR (po p) (nI q) ps ph pt pm (ro i) a n ch f ho ⟨pw_ge0 (by omega), (pw_leN (by omega) (by omega)).mpr (by omega)⟩) (cwV 0 hts gX2_side_X0_isOld rfl rfl rfl (by decide +kernel) ⟨Nat.le_of_ble_eq_true rfl, Nat.le_of_ble_eq_true rfl⟩) hK hP hD [2, 3, 4] rfl (by decide) 0 rfl rfl rfl rfl hl.1 rfl (Nat.le_of_ble_eq_true rfl) dX2_side_36 ⟨Nat.zero_le _, Nat.zero_le _⟩ ?_
  refine lv_if_eq (tgt := 45) hx hb dX2_side_39 (by decide) (fun c => ?_) (fun c => absurd c (by decide))
  refine lv_iload_n hx hb dX2_side_45 rfl (lv_at hl 4 rfl) ?_
  refine lv_lookup (off := 63) (tgt := 109) hx hb dX2_side_46 (by decide) (by decide) (by decide) ?_
  refine lv_aload_n hx hb dX2_side_109 rfl (lv_at hl 1 rfl) ?_
  refine va_getN (D := D) (ci := 0) (v := .int (nI q)) (C := RX0) (T := TX0) (N := 6) hx hb hts hi_X2_side_0 hown hK.1 hP 2 rfl rfl 1 (by decide) (va_Nw.use rfl hNW.2.2.1) (fun _ h9 => h9) rfl dX2_side_110 ?_
  exact pw_piret hx hb hr (rfl) hlocks dX2_side_113 (rfl)
set_option maxHeartbeats 4000000 in
set_option maxRecDepth 100000 in
theorem k_side_3 (l : Launch) (D : va_G) (cI cP cR : ClassId) (h qr qp md : Nat) (r0 r1 r2 r3 : Int32) (po ro : Nat → Nat) (p i a n : Nat) (ch : Int32) (f : Nat → Int32) (pa ps ph pt pm : Int32) (hp4 : p < 4) (hi : i < 3) (hn : n ≤ 60) (ho : ps = ch) (q : Nat) (hq : q ≤ n) : pw_Mp l yX2_side wsX2_side ({ frames := 2, cells := 0, slots := 0, locals := 45 } : Room) D cI cP cR [.ref h, .int (nI p), .int (nI 3)] ([(h, .inr (2, [.ref qr, .ref qp, .int (nI md), .int (r0), .int (r1), .int (r2), .int (r3)])), (qp, .inl (cP, 4, .inr (.inr (.inr (.inr (fun i => some (po i))))))), (po p, .inr (0, [.ref (ro i), .int (nI q), .int (ps), .int (ph), .int (pt), .int (pm)])), (ro i, .inr (1, [.ref a, .int (nI n), .int (ch)])), (a, .inl (cI, 60, .inl (f)))]) (.int (nI q)) := by
  refine pw_ofp (cc := cX2_side) (maxL := 5) (ret := (some .int)) (own := RX2) (by decide +kernel) rfl rfl (Nat.le_of_ble_eq_true rfl) ?_
  intro p_ e_ s m bel meth cd hE hK hP hD ls hl
  obtain ⟨hx, hb, hr, hml, hown, hts, hlocks⟩ := hE
  have hNW := hK.2
  have hl : lv_has ls 5 [(0, .ref h), (1, .int (nI p)), (2, .int (nI 3))] := hl
  refine lv_aload_n hx hb dX2_side_0 rfl (lv_at hl 0 rfl) ?_
  refine lv_iload_n hx hb dX2_side_1 rfl (lv_at hl 1 rfl) ?_
  -- c_pegOf_i
  refine pw_cVp (As := [.int (nI p)]) (rest := []) (wc := [(h, .inr (2, [.ref qr, .ref qp, .int (nI md), .int (r0), .int (r1), .int (r2), .int (r3)])), (qp, .inl (cP, 4, .inr (.inr (.inr (.inr (fun i => some (po i)))))))]) ⟨hx, hb, hml, hown, hts⟩ (c_pegOf_i l D cI cP cR h qr qp md r0 r1 r2 r3 po p (by omega)) (cwV 1 hts gX2_side_X2_pegOf rfl rfl rfl (by decide +kernel) ⟨Nat.le_of_ble_eq_true rfl, Nat.le_of_ble_eq_true rfl⟩) hK hP hD [0, 1] rfl (by decide) 0 rfl rfl rfl rfl hl.1 rfl (Nat.le_of_ble_eq_true rfl) dX2_side_2 ⟨Nat.zero_le _, Nat.zero_le _⟩ ?_
  refine lv_astore_n (lv' := [(3, .ref (po p)), (0, .ref h), (1, .int (nI p)), (2, .int (nI 3))]) hx hb dX2_side_5 rfl hl (by decide) rfl (fun ls hl => ?_)
  refine lv_aload_n hx hb dX2_side_6 rfl (lv_at hl 0 rfl) ?_
  refine lv_ifnull hx hb dX2_side_7 ?_
  refine lv_iload_n hx hb dX2_side_10 rfl (lv_at hl 3 rfl) ?_
  refine lv_if_lt (tgt := 19) hx hb dX2_side_11 (by decide) (fun c => absurd c (by decide)) (fun c => ?_)
  refine lv_iload_n hx hb dX2_side_14 rfl (lv_at hl 3 rfl) ?_
  refine lv_iconst (v := nI 3) hx hb dX2_side_15 (by decide) ?_
  refine lv_icmp_le (tgt := 21) hx hb dX2_side_16 (by decide) (fun c => ?_) (fun c => absurd c (by decide))
  refine lv_aload_n hx hb dX2_side_21 rfl (lv_at hl 0 rfl) ?_
  refine va_getN (D := D) (ci := 0) (v := .ref (ro i)) (C := RX0) (T := TX0) (N := 6) hx hb hts hi_X2_side_0 hown hK.1 hP 2 rfl rfl 0 (by decide) (va_Nw.use rfl hNW.2.1) (fun _ h9 => h9) rfl dX2_side_22 ?_
  refine lv_astore (lv' := [(4, .ref (ro i)), (3, .ref (po p)), (0, .ref h), (1, .int (nI p)), (2, .int (nI 3))]) hx hb dX2_side_25 hl (by decide) rfl (fun ls hl => ?_)
  refine lv_aload hx hb dX2_side_27 (lv_at hl 0 rfl) ?_
  refine lv_ifnonnull (tgt := 35) hx hb dX2_side_29 (by decide) ?_
  refine lv_aload_n hx hb dX2_side_35 rfl (lv_at hl 1 rfl) ?_
  -- c_isOld_f
  refine pw_cVp (As := []) (rest := []) (wc := [(po p, .inr (0, [.ref (ro i), .int (nI q), .int (ps), .int (ph), .int (pt), .int (pm)])), (ro i, .inr (1, [.ref a, .int (nI n), .int (ch)])), (a, .inl (cI, 60, .inl (f)))]) ⟨hx, hb, hml, hown, hts⟩ (c_isOld_f l D cI cP cR (po p) (nI q) ps ph pt pm (ro i) a n ch f ho ⟨pw_ge0 (by omega), (pw_leN (by omega) (by omega)).mpr (by omega)⟩) (cwV 0 hts gX2_side_X0_isOld rfl rfl rfl (by decide +kernel) ⟨Nat.le_of_ble_eq_true rfl, Nat.le_of_ble_eq_true rfl⟩) hK hP hD [2, 3, 4] rfl (by decide) 0 rfl rfl rfl rfl hl.1 rfl (Nat.le_of_ble_eq_true rfl) dX2_side_36 ⟨Nat.zero_le _, Nat.zero_le _⟩ ?_
  refine lv_if_eq (tgt := 45) hx hb dX2_side_39 (by decide) (fun c => ?_) (fun c => absurd c (by decide))
  refine lv_iload_n hx hb dX2_side_45 rfl (lv_at hl 4 rfl) ?_
  refine lv_lookup (off := 63) (tgt := 109) hx hb dX2_side_46 (by decide) (by decide) (by decide) ?_
  refine lv_aload_n hx hb dX2_side_109 rfl (lv_at hl 1 rfl) ?_
  refine va_getN (D := D) (ci := 0) (v := .int (nI q)) (C := RX0) (T := TX0) (N := 6) hx hb hts hi_X2_side_0 hown hK.1 hP 2 rfl rfl 1 (by decide) (va_Nw.use rfl hNW.2.2.1) (fun _ h9 => h9) rfl dX2_side_110 ?_
  exact pw_piret hx hb hr (rfl) hlocks dX2_side_113 (rfl)
set_option maxHeartbeats 4000000 in
set_option maxRecDepth 100000 in
theorem c_hf_o (l : Launch) (D : va_G) (cI cP cR : ClassId) (h qr qp md : Nat) (r0 r1 r2 r3 : Int32) (po ro : Nat → Nat) (p i a n : Nat) (ch : Int32) (f : Nat → Int32) (pa ps ph pt pm : Int32) (hp4 : p < 4) (hi : i < 3) (hn : n ≤ 60) (ho : ¬ ps = ch) : pw_Mm l yX2_handFault wsX2_handFault ({ frames := 2, cells := 0, slots := 0, locals := 45 } : Room) D cI cP cR [.ref h, .ref (po p), .ref (ro i)] ([(h, .inr (2, [.ref qr, .ref qp, .int (nI md), .int (r0), .int (r1), .int (r2), .int (r3)])), (qp, .inl (cP, 4, .inr (.inr (.inr (.inr (fun i => some (po i))))))), (po p, .inr (0, [.ref (ro i), .int (pa), .int (ps), .int (ph), .int (pt), .int (pm)])), (ro i, .inr (1, [.ref a, .int (nI n), .int (ch)])), (a, .inl (cI, 60, .inl (f)))]) (fun v w => v = some (.int (-4)) ∧ w = [(h, .inr (2, [.ref qr, .ref qp, .int (nI md), .int (r0), .int (r1), .int (r2), .int (r3 + nI 1)])), (qp, .inl (cP, 4, .inr (.inr (.inr (.inr (fun i => some (po i))))))), (po p, .inr (0, [.ref (ro i), .int (pa), .int (ps), .int (ph), .int (pt), .int (pm)])), (ro i, .inr (1, [.ref a, .int (nI n), .int (ch)])), (a, .inl (cI, 60, .inl (f)))]) := by
  refine pw_ofm (cc := cX2_handFault) (maxL := 3) (ret := (some .int)) (own := RX2) (by decide +kernel) rfl rfl (Nat.le_of_ble_eq_true rfl) ?_
  intro p_ e_ s m bel meth cd A hE hK hP hD hA hS ls hl
  obtain ⟨hx, hb, hr, hml, hown, hts, hlocks⟩ := hE
  have hNW := hK.2
  have hl : lv_has ls 3 [(0, .ref h), (1, .ref (po p)), (2, .ref (ro i))] := hl
  refine lv_aload_n hx hb dX2_handFault_0 rfl (lv_at hl 1 rfl) ?_
  -- c_isOld_o
  refine pw_cVp (As := []) (rest := []) (wc := [(po p, .inr (0, [.ref (ro i), .int (pa), .int (ps), .int (ph), .int (pt), .int (pm)])), (ro i, .inr (1, [.ref a, .int (nI n), .int (ch)])), (a, .inl (cI, 60, .inl (f)))]) ⟨hx, hb, hml, hown, hts⟩ (c_isOld_o l D cI cP cR (po p) pa ps ph pt pm (ro i) a n ch f ho) (cwV 0 hts gX2_handFault_X0_isOld rfl rfl rfl (by decide +kernel) ⟨Nat.le_of_ble_eq_true rfl, Nat.le_of_ble_eq_true rfl⟩) hK hP hD [2, 3, 4] rfl (by decide) 0 rfl rfl rfl rfl hl.1 rfl (Nat.le_of_ble_eq_true rfl) dX2_handFault_1 ⟨Nat.zero_le _, Nat.zero_le _⟩ ?_
  refine lv_if_eq (tgt := 14) hx hb dX2_handFault_4 (by decide) (fun c => absurd c (by decide)) (fun c => ?_)
  refine lv_aload_n hx hb dX2_handFault_7 rfl (lv_at hl 0 rfl) ?_
  refine lv_bipush (v := -4) hx hb dX2_handFault_8 (by decide) ?_
  -- c_refused_o
  refine pw_cVm (As := [.int (-4)]) (rest := []) (wc := [(h, .inr (2, [.ref qr, .ref qp, .int (nI md), .int (r0), .int (r1), .int (r2), .int (r3)]))]) (wr := [(qp, .inl (cP, 4, .inr (.inr (.inr (.inr (fun i => some (po i))))))), (po p, .inr (0, [.ref (ro i), .int (pa), .int (ps), .int (ph), .int (pt), .int (pm)])), (ro i, .inr (1, [.ref a, .int (nI n), .int (ch)])), (a, .inl (cI, 60, .inl (f)))]) ⟨hx, hb, hml, hown, hts⟩ (c_refused_o l D cI cP cR h qr qp md r0 r1 r2 r3) (cwV 1 hts gX2_handFault_X2_refused rfl rfl rfl (by decide +kernel) ⟨Nat.le_of_ble_eq_true rfl, Nat.le_of_ble_eq_true rfl⟩) hK hP hD hS hA [0] [1, 2, 3, 4] rfl rfl (by decide) (by decide) (by decide) 0 rfl rfl rfl rfl hl.1 rfl (Nat.le_of_ble_eq_true rfl) dX2_handFault_10 ⟨Nat.zero_le _, Nat.zero_le _⟩ (fun v1 w1 H locs hq hP hD hS => ?_)
  rcases hq with ⟨rfl, rfl⟩
  have hP : va_P D vwCl ([(qp, .inl (cP, 4, .inr (.inr (.inr (.inr (fun i => some (po i))))))), (po p, .inr (0, [.ref (ro i), .int (pa), .int (ps), .int (ph), .int (pt), .int (pm)])), (ro i, .inr (1, [.ref a, .int (nI n), .int (ch)])), (a, .inl (cI, 60, .inl (f))), (h, .inr (2, [.ref qr, .ref qp, .int (nI md), .int (r0), .int (r1), .int (r2), .int (r3 + nI 1)]))]) H := hP
  have hD : va_D A ([(qp, .inl (cP, 4, .inr (.inr (.inr (.inr (fun i => some (po i))))))), (po p, .inr (0, [.ref (ro i), .int (pa), .int (ps), .int (ph), .int (pt), .int (pm)])), (ro i, .inr (1, [.ref a, .int (nI n), .int (ch)])), (a, .inl (cI, 60, .inl (f))), (h, .inr (2, [.ref qr, .ref qp, .int (nI md), .int (r0), .int (r1), .int (r2), .int (r3 + nI 1)]))]) := hD
  refine W.eq (g2 := F0 m 13 ls [.int (-4)]) rfl ?_
  have hP := hP.sub (ws' := [(h, .inr (2, [.ref qr, .ref qp, .int (nI md), .int (r0), .int (r1), .int (r2), .int (r3 + nI 1)])), (qp, .inl (cP, 4, .inr (.inr (.inr (.inr (fun i => some (po i))))))), (po p, .inr (0, [.ref (ro i), .int (pa), .int (ps), .int (ph), .int (pt), .int (pm)])), (ro i, .inr (1, [.ref a, .int (nI n), .int (ch)])), (a, .inl (cI, 60, .inl (f)))]) [4, 0, 1, 2, 3] rfl
  have hD := hD.sub (ws' := [(h, .inr (2, [.ref qr, .ref qp, .int (nI md), .int (r0), .int (r1), .int (r2), .int (r3 + nI 1)])), (qp, .inl (cP, 4, .inr (.inr (.inr (.inr (fun i => some (po i))))))), (po p, .inr (0, [.ref (ro i), .int (pa), .int (ps), .int (ph), .int (pt), .int (pm)])), (ro i, .inr (1, [.ref a, .int (nI n), .int (ch)])), (a, .inl (cI, 60, .inl (f)))]) [4, 0, 1, 2, 3] (by decide) rfl
  exact pw_iret hx hb hr (rfl) hlocks dX2_handFault_13 hS hP hD (⟨rfl, rfl⟩)
theorem hi_X2_handFault_0 : ∀ w ∈ u_ws RX0 TX0 6, w ∈ wsX2_handFault := by decide +kernel
set_option maxHeartbeats 4000000 in
set_option maxRecDepth 100000 in
theorem c_hf_m (l : Launch) (D : va_G) (cI cP cR : ClassId) (h qr qp md : Nat) (r0 r1 r2 r3 : Int32) (po ro : Nat → Nat) (p i a n : Nat) (ch : Int32) (f : Nat → Int32) (pa ps ph pt pm : Int32) (hp4 : p < 4) (hi : i < 3) (hn : n ≤ 60) (ho : ps = ch) (hw : 0 ≤ pa ∧ pa ≤ nI n) : pw_Mp l yX2_handFault wsX2_handFault ({ frames := 2, cells := 0, slots := 0, locals := 45 } : Room) D cI cP cR [.ref h, .ref (po p), .ref (ro i)] ([(h, .inr (2, [.ref qr, .ref qp, .int (nI md), .int (r0), .int (r1), .int (r2), .int (r3)])), (qp, .inl (cP, 4, .inr (.inr (.inr (.inr (fun i => some (po i))))))), (po p, .inr (0, [.ref (ro i), .int (pa), .int (ps), .int (ph), .int (pt), .int (nI 1)])), (ro i, .inr (1, [.ref a, .int (nI n), .int (ch)])), (a, .inl (cI, 60, .inl (f)))]) (.int (-8)) := by
  refine pw_ofp (cc := cX2_handFault) (maxL := 3) (ret := (some .int)) (own := RX2) (by decide +kernel) rfl rfl (Nat.le_of_ble_eq_true rfl) ?_
  intro p_ e_ s m bel meth cd hE hK hP hD ls hl
  obtain ⟨hx, hb, hr, hml, hown, hts, hlocks⟩ := hE
  have hNW := hK.2
  have hl : lv_has ls 3 [(0, .ref h), (1, .ref (po p)), (2, .ref (ro i))] := hl
  refine lv_aload_n hx hb dX2_handFault_0 rfl (lv_at hl 1 rfl) ?_
  -- c_isOld_f
  refine pw_cVp (As := []) (rest := []) (wc := [(po p, .inr (0, [.ref (ro i), .int (pa), .int (ps), .int (ph), .int (pt), .int (nI 1)])), (ro i, .inr (1, [.ref a, .int (nI n), .int (ch)])), (a, .inl (cI, 60, .inl (f)))]) ⟨hx, hb, hml, hown, hts⟩ (c_isOld_f l D cI cP cR (po p) pa ps ph pt (nI 1) (ro i) a n ch f ho hw) (cwV 0 hts gX2_handFault_X0_isOld rfl rfl rfl (by decide +kernel) ⟨Nat.le_of_ble_eq_true rfl, Nat.le_of_ble_eq_true rfl⟩) hK hP hD [2, 3, 4] rfl (by decide) 0 rfl rfl rfl rfl hl.1 rfl (Nat.le_of_ble_eq_true rfl) dX2_handFault_1 ⟨Nat.zero_le _, Nat.zero_le _⟩ ?_
  refine lv_if_eq (tgt := 14) hx hb dX2_handFault_4 (by decide) (fun c => ?_) (fun c => absurd c (by decide))
  refine lv_aload_n hx hb dX2_handFault_14 rfl (lv_at hl 1 rfl) ?_
  refine va_getN (D := D) (ci := 0) (v := .int (nI 1)) (C := RX0) (T := TX0) (N := 6) hx hb hts hi_X2_handFault_0 hown hK.1 hP 2 rfl rfl 5 (by decide) (va_Nw.use rfl hNW.2.2.2.2.2.1) (fun _ h9 => h9) rfl dX2_handFault_15 ?_
  refine lv_if_eq (tgt := 24) hx hb dX2_handFault_18 (by decide) (fun c => absurd c (by decide)) (fun c => ?_)
  refine lv_bipush (v := -8) hx hb dX2_handFault_21 (by decide) ?_
  exact pw_piret hx hb hr (rfl) hlocks dX2_handFault_23 (rfl)
set_option maxHeartbeats 4000000 in
set_option maxRecDepth 100000 in
theorem c_hf_s (l : Launch) (D : va_G) (cI cP cR : ClassId) (h qr qp md : Nat) (r0 r1 r2 r3 : Int32) (po ro : Nat → Nat) (p i a n : Nat) (ch : Int32) (f : Nat → Int32) (pa ps ph pt pm : Int32) (hp4 : p < 4) (hi : i < 3) (hn : n ≤ 60) (ho : ps = ch) (hw : 0 ≤ pa ∧ pa ≤ nI n) (hq : ¬ (0 ≤ ph ∧ ph < nI n)) : pw_Mm l yX2_handFault wsX2_handFault ({ frames := 2, cells := 0, slots := 0, locals := 45 } : Room) D cI cP cR [.ref h, .ref (po p), .ref (ro i)] ([(h, .inr (2, [.ref qr, .ref qp, .int (nI md), .int (r0), .int (r1), .int (r2), .int (r3)])), (qp, .inl (cP, 4, .inr (.inr (.inr (.inr (fun i => some (po i))))))), (po p, .inr (0, [.ref (ro i), .int (pa), .int (ps), .int (ph), .int (pt), .int (nI 0)])), (ro i, .inr (1, [.ref a, .int (nI n), .int (ch)])), (a, .inl (cI, 60, .inl (f)))]) (fun v w => v = some (.int (-7)) ∧ w = [(h, .inr (2, [.ref qr, .ref qp, .int (nI md), .int (r0), .int (r1), .int (r2 + nI 1), .int (r3)])), (qp, .inl (cP, 4, .inr (.inr (.inr (.inr (fun i => some (po i))))))), (po p, .inr (0, [.ref (ro i), .int (pa), .int (ps), .int (ph), .int (pt), .int (nI 0)])), (ro i, .inr (1, [.ref a, .int (nI n), .int (ch)])), (a, .inl (cI, 60, .inl (f)))]) := by
  refine pw_ofm (cc := cX2_handFault) (maxL := 3) (ret := (some .int)) (own := RX2) (by decide +kernel) rfl rfl (Nat.le_of_ble_eq_true rfl) ?_
  intro p_ e_ s m bel meth cd A hE hK hP hD hA hS ls hl
  obtain ⟨hx, hb, hr, hml, hown, hts, hlocks⟩ := hE
  have hNW := hK.2
  have hl : lv_has ls 3 [(0, .ref h), (1, .ref (po p)), (2, .ref (ro i))] := hl
  refine lv_aload_n hx hb dX2_handFault_0 rfl (lv_at hl 1 rfl) ?_
  -- c_isOld_f
  refine pw_cVp (As := []) (rest := []) (wc := [(po p, .inr (0, [.ref (ro i), .int (pa), .int (ps), .int (ph), .int (pt), .int (nI 0)])), (ro i, .inr (1, [.ref a, .int (nI n), .int (ch)])), (a, .inl (cI, 60, .inl (f)))]) ⟨hx, hb, hml, hown, hts⟩ (c_isOld_f l D cI cP cR (po p) pa ps ph pt (nI 0) (ro i) a n ch f ho hw) (cwV 0 hts gX2_handFault_X0_isOld rfl rfl rfl (by decide +kernel) ⟨Nat.le_of_ble_eq_true rfl, Nat.le_of_ble_eq_true rfl⟩) hK hP hD [2, 3, 4] rfl (by decide) 0 rfl rfl rfl rfl hl.1 rfl (Nat.le_of_ble_eq_true rfl) dX2_handFault_1 ⟨Nat.zero_le _, Nat.zero_le _⟩ ?_
  refine lv_if_eq (tgt := 14) hx hb dX2_handFault_4 (by decide) (fun c => ?_) (fun c => absurd c (by decide))
  refine lv_aload_n hx hb dX2_handFault_14 rfl (lv_at hl 1 rfl) ?_
  refine va_getN (D := D) (ci := 0) (v := .int (nI 0)) (C := RX0) (T := TX0) (N := 6) hx hb hts hi_X2_handFault_0 hown hK.1 hP 2 rfl rfl 5 (by decide) (va_Nw.use rfl hNW.2.2.2.2.2.1) (fun _ h9 => h9) rfl dX2_handFault_15 ?_
  refine lv_if_eq (tgt := 24) hx hb dX2_handFault_18 (by decide) (fun c => ?_) (fun c => absurd c (by decide))
  refine lv_aload_n hx hb dX2_handFault_24 rfl (lv_at hl 2 rfl) ?_
  refine lv_aload_n hx hb dX2_handFault_25 rfl (lv_at hl 1 rfl) ?_
  refine va_getN (D := D) (ci := 0) (v := .int (ph)) (C := RX0) (T := TX0) (N := 6) hx hb hts hi_X2_handFault_0 hown hK.1 hP 2 rfl rfl 3 (by decide) (va_Nw.use rfl hNW.2.2.2.1) (fun _ h9 => h9) rfl dX2_handFault_26 ?_
  -- c_hasThingAt_f
  refine pw_cVp (As := [.int (ph)]) (rest := []) (wc := [(ro i, .inr (1, [.ref a, .int (nI n), .int (ch)])), (a, .inl (cI, 60, .inl (f)))]) ⟨hx, hb, hml, hown, hts⟩ (c_hasThingAt_f l D cI cP cR (ro i) a n ch f ph hq) (cwV 1 hts gX2_handFault_X1_hasThingAt rfl rfl rfl (by decide +kernel) ⟨Nat.le_of_ble_eq_true rfl, Nat.le_of_ble_eq_true rfl⟩) hK hP hD [3, 4] rfl (by decide) 0 rfl rfl rfl rfl hl.1 rfl (Nat.le_of_ble_eq_true rfl) dX2_handFault_29 ⟨Nat.zero_le _, Nat.zero_le _⟩ ?_
  refine lv_if_ne (tgt := 42) hx hb dX2_handFault_32 (by decide) (fun c => absurd c (by decide)) (fun c => ?_)
  refine lv_aload_n hx hb dX2_handFault_35 rfl (lv_at hl 0 rfl) ?_
  refine lv_bipush (v := -7) hx hb dX2_handFault_36 (by decide) ?_
  -- c_refused_s
  refine pw_cVm (As := [.int (-7)]) (rest := []) (wc := [(h, .inr (2, [.ref qr, .ref qp, .int (nI md), .int (r0), .int (r1), .int (r2), .int (r3)]))]) (wr := [(qp, .inl (cP, 4, .inr (.inr (.inr (.inr (fun i => some (po i))))))), (po p, .inr (0, [.ref (ro i), .int (pa), .int (ps), .int (ph), .int (pt), .int (nI 0)])), (ro i, .inr (1, [.ref a, .int (nI n), .int (ch)])), (a, .inl (cI, 60, .inl (f)))]) ⟨hx, hb, hml, hown, hts⟩ (c_refused_s l D cI cP cR h qr qp md r0 r1 r2 r3) (cwV 1 hts gX2_handFault_X2_refused rfl rfl rfl (by decide +kernel) ⟨Nat.le_of_ble_eq_true rfl, Nat.le_of_ble_eq_true rfl⟩) hK hP hD hS hA [0] [1, 2, 3, 4] rfl rfl (by decide) (by decide) (by decide) 0 rfl rfl rfl rfl hl.1 rfl (Nat.le_of_ble_eq_true rfl) dX2_handFault_38 ⟨Nat.zero_le _, Nat.zero_le _⟩ (fun v1 w1 H locs hq hP hD hS => ?_)
  rcases hq with ⟨rfl, rfl⟩
  have hP : va_P D vwCl ([(qp, .inl (cP, 4, .inr (.inr (.inr (.inr (fun i => some (po i))))))), (po p, .inr (0, [.ref (ro i), .int (pa), .int (ps), .int (ph), .int (pt), .int (nI 0)])), (ro i, .inr (1, [.ref a, .int (nI n), .int (ch)])), (a, .inl (cI, 60, .inl (f))), (h, .inr (2, [.ref qr, .ref qp, .int (nI md), .int (r0), .int (r1), .int (r2 + nI 1), .int (r3)]))]) H := hP
  have hD : va_D A ([(qp, .inl (cP, 4, .inr (.inr (.inr (.inr (fun i => some (po i))))))), (po p, .inr (0, [.ref (ro i), .int (pa), .int (ps), .int (ph), .int (pt), .int (nI 0)])), (ro i, .inr (1, [.ref a, .int (nI n), .int (ch)])), (a, .inl (cI, 60, .inl (f))), (h, .inr (2, [.ref qr, .ref qp, .int (nI md), .int (r0), .int (r1), .int (r2 + nI 1), .int (r3)]))]) := hD
  refine W.eq (g2 := F0 m 41 ls [.int (-7)]) rfl ?_
  have hP := hP.sub (ws' := [(h, .inr (2, [.ref qr, .ref qp, .int (nI md), .int (r0), .int (r1), .int (r2 + nI 1), .int (r3)])), (qp, .inl (cP, 4, .inr (.inr (.inr (.inr (fun i => some (po i))))))), (po p, .inr (0, [.ref (ro i), .int (pa), .int (ps), .int (ph), .int (pt), .int (nI 0)])), (ro i, .inr (1, [.ref a, .int (nI n), .int (ch)])), (a, .inl (cI, 60, .inl (f)))]) [4, 0, 1, 2, 3] rfl
  have hD := hD.sub (ws' := [(h, .inr (2, [.ref qr, .ref qp, .int (nI md), .int (r0), .int (r1), .int (r2 + nI 1), .int (r3)])), (qp, .inl (cP, 4, .inr (.inr (.inr (.inr (fun i => some (po i))))))), (po p, .inr (0, [.ref (ro i), .int (pa), .int (ps), .int (ph), .int (pt), .int (nI 0)])), (ro i, .inr (1, [.ref a, .int (nI n), .int (ch)])), (a, .inl (cI, 60, .inl (f)))]) [4, 0, 1, 2, 3] (by decide) rfl
  exact pw_iret hx hb hr (rfl) hlocks dX2_handFault_41 hS hP hD (⟨rfl, rfl⟩)
set_option maxHeartbeats 4000000 in
set_option maxRecDepth 100000 in
theorem c_hf_r (l : Launch) (D : va_G) (cI cP cR : ClassId) (h qr qp md : Nat) (r0 r1 r2 r3 : Int32) (po ro : Nat → Nat) (p i a n : Nat) (ch : Int32) (f : Nat → Int32) (pa ps ph pt pm : Int32) (hp4 : p < 4) (hi : i < 3) (hn : n ≤ 60) (ho : ps = ch) (hw : 0 ≤ pa ∧ pa ≤ nI n) (j : Nat) (hj : j < n) (hd : f j = pt) : pw_Mp l yX2_handFault wsX2_handFault ({ frames := 2, cells := 0, slots := 0, locals := 45 } : Room) D cI cP cR [.ref h, .ref (po p), .ref (ro i)] ([(h, .inr (2, [.ref qr, .ref qp, .int (nI md), .int (r0), .int (r1), .int (r2), .int (r3)])), (qp, .inl (cP, 4, .inr (.inr (.inr (.inr (fun i => some (po i))))))), (po p, .inr (0, [.ref (ro i), .int (pa), .int (ps), .int (nI j), .int (pt), .int (nI 0)])), (ro i, .inr (1, [.ref a, .int (nI n), .int (ch)])), (a, .inl (cI, 60, .inl (f)))]) (.int (nI 0)) := by
  refine pw_ofp (cc := cX2_handFault) (maxL := 3) (ret := (some .int)) (own := RX2) (by decide +kernel) rfl rfl (Nat.le_of_ble_eq_true rfl) ?_
  intro p_ e_ s m bel meth cd hE hK hP hD ls hl
  obtain ⟨hx, hb, hr, hml, hown, hts, hlocks⟩ := hE
  have hNW := hK.2
  have hl : lv_has ls 3 [(0, .ref h), (1, .ref (po p)), (2, .ref (ro i))] := hl
  refine lv_aload_n hx hb dX2_handFault_0 rfl (lv_at hl 1 rfl) ?_
  -- c_isOld_f
  refine pw_cVp (As := []) (rest := []) (wc := [(po p, .inr (0, [.ref (ro i), .int (pa), .int (ps), .int (nI j), .int (pt), .int (nI 0)])), (ro i, .inr (1, [.ref a, .int (nI n), .int (ch)])), (a, .inl (cI, 60, .inl (f)))]) ⟨hx, hb, hml, hown, hts⟩ (c_isOld_f l D cI cP cR (po p) pa ps (nI j) pt (nI 0) (ro i) a n ch f ho hw) (cwV 0 hts gX2_handFault_X0_isOld rfl rfl rfl (by decide +kernel) ⟨Nat.le_of_ble_eq_true rfl, Nat.le_of_ble_eq_true rfl⟩) hK hP hD [2, 3, 4] rfl (by decide) 0 rfl rfl rfl rfl hl.1 rfl (Nat.le_of_ble_eq_true rfl) dX2_handFault_1 ⟨Nat.zero_le _, Nat.zero_le _⟩ ?_
  refine lv_if_eq (tgt := 14) hx hb dX2_handFault_4 (by decide) (fun c => ?_) (fun c => absurd c (by decide))
  refine lv_aload_n hx hb dX2_handFault_14 rfl (lv_at hl 1 rfl) ?_
  refine va_getN (D := D) (ci := 0) (v := .int (nI 0)) (C := RX0) (T := TX0) (N := 6) hx hb hts hi_X2_handFault_0 hown hK.1 hP 2 rfl rfl 5 (by decide) (va_Nw.use rfl hNW.2.2.2.2.2.1) (fun _ h9 => h9) rfl dX2_handFault_15 ?_
  refine lv_if_eq (tgt := 24) hx hb dX2_handFault_18 (by decide) (fun c => ?_) (fun c => absurd c (by decide))
  refine lv_aload_n hx hb dX2_handFault_24 rfl (lv_at hl 2 rfl) ?_
  refine lv_aload_n hx hb dX2_handFault_25 rfl (lv_at hl 1 rfl) ?_
  refine va_getN (D := D) (ci := 0) (v := .int (nI j)) (C := RX0) (T := TX0) (N := 6) hx hb hts hi_X2_handFault_0 hown hK.1 hP 2 rfl rfl 3 (by decide) (va_Nw.use rfl hNW.2.2.2.1) (fun _ h9 => h9) rfl dX2_handFault_26 ?_
  -- c_hasThingAt_t
  refine pw_cVp (As := [.int (nI j)]) (rest := []) (wc := [(ro i, .inr (1, [.ref a, .int (nI n), .int (ch)])), (a, .inl (cI, 60, .inl (f)))]) ⟨hx, hb, hml, hown, hts⟩ (c_hasThingAt_t l D cI cP cR (ro i) a n ch f j (by omega) (by omega)) (cwV 1 hts gX2_handFault_X1_hasThingAt rfl rfl rfl (by decide +kernel) ⟨Nat.le_of_ble_eq_true rfl, Nat.le_of_ble_eq_true rfl⟩) hK hP hD [3, 4] rfl (by decide) 0 rfl rfl rfl rfl hl.1 rfl (Nat.le_of_ble_eq_true rfl) dX2_handFault_29 ⟨Nat.zero_le _, Nat.zero_le _⟩ ?_
  refine lv_if_ne (tgt := 42) hx hb dX2_handFault_32 (by decide) (fun c => ?_) (fun c => absurd c (by decide))
  refine lv_aload_n hx hb dX2_handFault_42 rfl (lv_at hl 2 rfl) ?_
  refine lv_aload_n hx hb dX2_handFault_43 rfl (lv_at hl 1 rfl) ?_
  refine va_getN (D := D) (ci := 0) (v := .int (nI j)) (C := RX0) (T := TX0) (N := 6) hx hb hts hi_X2_handFault_0 hown hK.1 hP 2 rfl rfl 3 (by decide) (va_Nw.use rfl hNW.2.2.2.1) (fun _ h9 => h9) rfl dX2_handFault_44 ?_
  -- c_thingAt
  refine pw_cVp (As := [.int (nI j)]) (rest := []) (wc := [(ro i, .inr (1, [.ref a, .int (nI n), .int (ch)])), (a, .inl (cI, 60, .inl (f)))]) ⟨hx, hb, hml, hown, hts⟩ (c_thingAt l D cI cP cR (ro i) a n ch f j (by omega)) (cwV 1 hts gX2_handFault_X1_thingAt rfl rfl rfl (by decide +kernel) ⟨Nat.le_of_ble_eq_true rfl, Nat.le_of_ble_eq_true rfl⟩) hK hP hD [3, 4] rfl (by decide) 0 rfl rfl rfl rfl hl.1 rfl (Nat.le_of_ble_eq_true rfl) dX2_handFault_47 ⟨Nat.zero_le _, Nat.zero_le _⟩ ?_
  refine lv_aload_n hx hb dX2_handFault_50 rfl (lv_at hl 1 rfl) ?_
  refine va_getN (D := D) (ci := 0) (v := .int (pt)) (C := RX0) (T := TX0) (N := 6) hx hb hts hi_X2_handFault_0 hown hK.1 hP 2 rfl rfl 4 (by decide) (va_Nw.use rfl hNW.2.2.2.2.1) (fun _ h9 => h9) rfl dX2_handFault_51 ?_
  refine lv_icmp_ne (tgt := 61) hx hb dX2_handFault_54 (by decide) (fun c_1 => ?_) (fun c_1 => ?_)
  · exact absurd hd c_1
  · have _h := c_1
    refine lv_iconst (v := nI 0) hx hb dX2_handFault_57 (by decide) ?_
    refine lv_goto (tgt := 63) hx hb dX2_handFault_58 (by decide) ?_
    exact pw_piret hx hb hr (rfl) hlocks dX2_handFault_63 (rfl)
set_option maxHeartbeats 4000000 in
set_option maxRecDepth 100000 in
theorem c_hf_l (l : Launch) (D : va_G) (cI cP cR : ClassId) (h qr qp md : Nat) (r0 r1 r2 r3 : Int32) (po ro : Nat → Nat) (p i a n : Nat) (ch : Int32) (f : Nat → Int32) (pa ps ph pt pm : Int32) (hp4 : p < 4) (hi : i < 3) (hn : n ≤ 60) (ho : ps = ch) (hw : 0 ≤ pa ∧ pa ≤ nI n) (j : Nat) (hj : j < n) (hd : ¬ f j = pt) : pw_Mp l yX2_handFault wsX2_handFault ({ frames := 2, cells := 0, slots := 0, locals := 45 } : Room) D cI cP cR [.ref h, .ref (po p), .ref (ro i)] ([(h, .inr (2, [.ref qr, .ref qp, .int (nI md), .int (r0), .int (r1), .int (r2), .int (r3)])), (qp, .inl (cP, 4, .inr (.inr (.inr (.inr (fun i => some (po i))))))), (po p, .inr (0, [.ref (ro i), .int (pa), .int (ps), .int (nI j), .int (pt), .int (nI 0)])), (ro i, .inr (1, [.ref a, .int (nI n), .int (ch)])), (a, .inl (cI, 60, .inl (f)))]) (.int (-8)) := by
  refine pw_ofp (cc := cX2_handFault) (maxL := 3) (ret := (some .int)) (own := RX2) (by decide +kernel) rfl rfl (Nat.le_of_ble_eq_true rfl) ?_
  intro p_ e_ s m bel meth cd hE hK hP hD ls hl
  obtain ⟨hx, hb, hr, hml, hown, hts, hlocks⟩ := hE
  have hNW := hK.2
  have hl : lv_has ls 3 [(0, .ref h), (1, .ref (po p)), (2, .ref (ro i))] := hl
  refine lv_aload_n hx hb dX2_handFault_0 rfl (lv_at hl 1 rfl) ?_
  -- c_isOld_f
  refine pw_cVp (As := []) (rest := []) (wc := [(po p, .inr (0, [.ref (ro i), .int (pa), .int (ps), .int (nI j), .int (pt), .int (nI 0)])), (ro i, .inr (1, [.ref a, .int (nI n), .int (ch)])), (a, .inl (cI, 60, .inl (f)))]) ⟨hx, hb, hml, hown, hts⟩ (c_isOld_f l D cI cP cR (po p) pa ps (nI j) pt (nI 0) (ro i) a n ch f ho hw) (cwV 0 hts gX2_handFault_X0_isOld rfl rfl rfl (by decide +kernel) ⟨Nat.le_of_ble_eq_true rfl, Nat.le_of_ble_eq_true rfl⟩) hK hP hD [2, 3, 4] rfl (by decide) 0 rfl rfl rfl rfl hl.1 rfl (Nat.le_of_ble_eq_true rfl) dX2_handFault_1 ⟨Nat.zero_le _, Nat.zero_le _⟩ ?_
  refine lv_if_eq (tgt := 14) hx hb dX2_handFault_4 (by decide) (fun c => ?_) (fun c => absurd c (by decide))
  refine lv_aload_n hx hb dX2_handFault_14 rfl (lv_at hl 1 rfl) ?_
  refine va_getN (D := D) (ci := 0) (v := .int (nI 0)) (C := RX0) (T := TX0) (N := 6) hx hb hts hi_X2_handFault_0 hown hK.1 hP 2 rfl rfl 5 (by decide) (va_Nw.use rfl hNW.2.2.2.2.2.1) (fun _ h9 => h9) rfl dX2_handFault_15 ?_
  refine lv_if_eq (tgt := 24) hx hb dX2_handFault_18 (by decide) (fun c => ?_) (fun c => absurd c (by decide))
  refine lv_aload_n hx hb dX2_handFault_24 rfl (lv_at hl 2 rfl) ?_
  refine lv_aload_n hx hb dX2_handFault_25 rfl (lv_at hl 1 rfl) ?_
  refine va_getN (D := D) (ci := 0) (v := .int (nI j)) (C := RX0) (T := TX0) (N := 6) hx hb hts hi_X2_handFault_0 hown hK.1 hP 2 rfl rfl 3 (by decide) (va_Nw.use rfl hNW.2.2.2.1) (fun _ h9 => h9) rfl dX2_handFault_26 ?_
  -- c_hasThingAt_t
  refine pw_cVp (As := [.int (nI j)]) (rest := []) (wc := [(ro i, .inr (1, [.ref a, .int (nI n), .int (ch)])), (a, .inl (cI, 60, .inl (f)))]) ⟨hx, hb, hml, hown, hts⟩ (c_hasThingAt_t l D cI cP cR (ro i) a n ch f j (by omega) (by omega)) (cwV 1 hts gX2_handFault_X1_hasThingAt rfl rfl rfl (by decide +kernel) ⟨Nat.le_of_ble_eq_true rfl, Nat.le_of_ble_eq_true rfl⟩) hK hP hD [3, 4] rfl (by decide) 0 rfl rfl rfl rfl hl.1 rfl (Nat.le_of_ble_eq_true rfl) dX2_handFault_29 ⟨Nat.zero_le _, Nat.zero_le _⟩ ?_
  refine lv_if_ne (tgt := 42) hx hb dX2_handFault_32 (by decide) (fun c => ?_) (fun c => absurd c (by decide))
  refine lv_aload_n hx hb dX2_handFault_42 rfl (lv_at hl 2 rfl) ?_
  refine lv_aload_n hx hb dX2_handFault_43 rfl (lv_at hl 1 rfl) ?_
  refine va_getN (D := D) (ci := 0) (v := .int (nI j)) (C := RX0) (T := TX0) (N := 6) hx hb hts hi_X2_handFault_0 hown hK.1 hP 2 rfl rfl 3 (by decide) (va_Nw.use rfl hNW.2.2.2.1) (fun _ h9 => h9) rfl dX2_handFault_44 ?_
  -- c_thingAt
  refine pw_cVp (As := [.int (nI j)]) (rest := []) (wc := [(ro i, .inr (1, [.ref a, .int (nI n), .int (ch)])), (a, .inl (cI, 60, .inl (f)))]) ⟨hx, hb, hml, hown, hts⟩ (c_thingAt l D cI cP cR (ro i) a n ch f j (by omega)) (cwV 1 hts gX2_handFault_X1_thingAt rfl rfl rfl (by decide +kernel) ⟨Nat.le_of_ble_eq_true rfl, Nat.le_of_ble_eq_true rfl⟩) hK hP hD [3, 4] rfl (by decide) 0 rfl rfl rfl rfl hl.1 rfl (Nat.le_of_ble_eq_true rfl) dX2_handFault_47 ⟨Nat.zero_le _, Nat.zero_le _⟩ ?_
  refine lv_aload_n hx hb dX2_handFault_50 rfl (lv_at hl 1 rfl) ?_
  refine va_getN (D := D) (ci := 0) (v := .int (pt)) (C := RX0) (T := TX0) (N := 6) hx hb hts hi_X2_handFault_0 hown hK.1 hP 2 rfl rfl 4 (by decide) (va_Nw.use rfl hNW.2.2.2.2.1) (fun _ h9 => h9) rfl dX2_handFault_51 ?_
  refine lv_icmp_ne (tgt := 61) hx hb dX2_handFault_54 (by decide) (fun c_1 => ?_) (fun c_1 => ?_)
  · have _h := c_1
    refine lv_bipush (v := -8) hx hb dX2_handFault_61 (by decide) ?_
    exact pw_piret hx hb hr (rfl) hlocks dX2_handFault_63 (rfl)
  · exact absurd c_1 hd
set_option maxHeartbeats 4000000 in
set_option maxRecDepth 100000 in
theorem k_change_x (l : Launch) (D : va_G) (cI cP cR : ClassId) (h qr qp md : Nat) (r0 r1 r2 r3 : Int32) (po : Nat → Nat) (peg name : Int32) (hbad : ¬ ((0 ≤ peg ∧ peg < nI 4) ∧ (0 ≤ name ∧ name < nI 10))) : pw_Mp l yX2_change wsX2_change ({ frames := 3, cells := 0, slots := 0, locals := 67 } : Room) D cI cP cR [.ref h, .int (peg), .int (name)] ([(h, .inr (2, [.ref qr, .ref qp, .int (nI md), .int (r0), .int (r1), .int (r2), .int (r3)])), (qp, .inl (cP, 4, .inr (.inr (.inr (.inr (fun i => some (po i)))))))]) (.int (-1)) := by
  refine pw_ofp (cc := cX2_change) (maxL := 7) (ret := (some .int)) (own := RX2) (by decide +kernel) rfl rfl (Nat.le_of_ble_eq_true rfl) ?_
  intro p_ e_ s m bel meth cd hE hK hP hD ls hl
  obtain ⟨hx, hb, hr, hml, hown, hts, hlocks⟩ := hE
  have hNW := hK.2
  have hl : lv_has ls 7 [(0, .ref h), (1, .int (peg)), (2, .int (name))] := hl
  by_cases hx_peg : 0 ≤ peg ∧ peg < nI 4
  · obtain ⟨pj_1, hpj_1, rfl⟩ := pw_inP (by decide) hx_peg
    refine lv_aload_n hx hb dX2_change_0 rfl (lv_at hl 0 rfl) ?_
    refine lv_iload_n hx hb dX2_change_1 rfl (lv_at hl 1 rfl) ?_
    -- c_pegOf_i
    refine pw_cVp (As := [.int (nI pj_1)]) (rest := []) (wc := [(h, .inr (2, [.ref qr, .ref qp, .int (nI md), .int (r0), .int (r1), .int (r2), .int (r3)])), (qp, .inl (cP, 4, .inr (.inr (.inr (.inr (fun i => some (po i)))))))]) ⟨hx, hb, hml, hown, hts⟩ (c_pegOf_i l D cI cP cR h qr qp md r0 r1 r2 r3 po pj_1 (by omega)) (cwV 1 hts gX2_change_X2_pegOf rfl rfl rfl (by decide +kernel) ⟨Nat.le_of_ble_eq_true rfl, Nat.le_of_ble_eq_true rfl⟩) hK hP hD [0, 1] rfl (by decide) 0 rfl rfl rfl rfl hl.1 rfl (Nat.le_of_ble_eq_true rfl) dX2_change_2 ⟨Nat.zero_le _, Nat.zero_le _⟩ ?_
    refine lv_astore_n (lv' := [(3, .ref (po pj_1)), (0, .ref h), (1, .int (nI pj_1)), (2, .int (name))]) hx hb dX2_change_5 rfl hl (by decide) rfl (fun ls hl => ?_)
    refine lv_aload_n hx hb dX2_change_6 rfl (lv_at hl 0 rfl) ?_
    refine lv_ifnull hx hb dX2_change_7 ?_
    refine lv_iload_n hx hb dX2_change_10 rfl (lv_at hl 3 rfl) ?_
    -- c_isName_f
    refine pw_cSp (As := [.int (name)]) (rest := []) ⟨hx, hb, hml, hown, hts⟩ (c_isName_f l D cI cP cR name (fun h => hbad ⟨hx_peg, h⟩)) (va_cwS 1 hts gX2_change_X2_isName rfl rfl rfl (by decide +kernel) ⟨Nat.le_of_ble_eq_true rfl, Nat.le_of_ble_eq_true rfl⟩) hK rfl hl.1 rfl (Nat.le_of_ble_eq_true rfl) dX2_change_11 ⟨Nat.zero_le _, Nat.zero_le _⟩ ?_
    refine lv_if_ne (tgt := 19) hx hb dX2_change_14 (by decide) (fun c => absurd c (by decide)) (fun c => ?_)
    refine lv_iconst (v := -1) hx hb dX2_change_17 (by decide) ?_
    exact pw_piret hx hb hr (rfl) hlocks dX2_change_18 (rfl)
  · have _h := hx_peg
    refine lv_aload_n hx hb dX2_change_0 rfl (lv_at hl 0 rfl) ?_
    refine lv_iload_n hx hb dX2_change_1 rfl (lv_at hl 1 rfl) ?_
    -- c_pegOf_n
    refine pw_cVp (As := [.int (peg)]) (rest := []) (wc := [(h, .inr (2, [.ref qr, .ref qp, .int (nI md), .int (r0), .int (r1), .int (r2), .int (r3)])), (qp, .inl (cP, 4, .inr (.inr (.inr (.inr (fun i => some (po i)))))))]) ⟨hx, hb, hml, hown, hts⟩ (c_pegOf_n l D cI cP cR h qr qp md r0 r1 r2 r3 po peg hx_peg) (cwV 1 hts gX2_change_X2_pegOf rfl rfl rfl (by decide +kernel) ⟨Nat.le_of_ble_eq_true rfl, Nat.le_of_ble_eq_true rfl⟩) hK hP hD [0, 1] rfl (by decide) 0 rfl rfl rfl rfl hl.1 rfl (Nat.le_of_ble_eq_true rfl) dX2_change_2 ⟨Nat.zero_le _, Nat.zero_le _⟩ ?_
    refine lv_astore_nN (lv' := [(3, .null), (0, .ref h), (1, .int (peg)), (2, .int (name))]) hx hb dX2_change_5 rfl hl (by decide) rfl (fun ls hl => ?_)
    refine lv_aload_nN hx hb dX2_change_6 rfl (lv_at hl 0 rfl) ?_
    refine lv_ifnullN (tgt := 17) hx hb dX2_change_7 (by decide) ?_
    refine lv_iconst (v := -1) hx hb dX2_change_17 (by decide) ?_
    exact pw_piret hx hb hr (rfl) hlocks dX2_change_18 (rfl)
theorem hi_X2_change_0 : ∀ w ∈ u_ws RX0 TX0 6, w ∈ wsX2_change := by decide +kernel
set_option maxHeartbeats 4000000 in
set_option maxRecDepth 100000 in
theorem k_change_n (l : Launch) (D : va_G) (cI cP cR : ClassId) (h qr qp md : Nat) (r0 r1 r2 r3 : Int32) (po : Nat → Nat) (p : Nat) (pa ps ph pt pm : Int32) (hp4 : p < 4) (nm : Nat) (hnm : nm < 10) : pw_Mp l yX2_change wsX2_change ({ frames := 3, cells := 0, slots := 0, locals := 67 } : Room) D cI cP cR [.ref h, .int (nI p), .int (nI nm)] ([(h, .inr (2, [.ref qr, .ref qp, .int (nI md), .int (r0), .int (r1), .int (r2), .int (r3)])), (qp, .inl (cP, 4, .inr (.inr (.inr (.inr (fun i => some (po i))))))), (po p, .inr (0, [.null, .int (pa), .int (ps), .int (ph), .int (pt), .int (pm)]))]) (.int (-2)) := by
  refine pw_ofp (cc := cX2_change) (maxL := 7) (ret := (some .int)) (own := RX2) (by decide +kernel) rfl rfl (Nat.le_of_ble_eq_true rfl) ?_
  intro p_ e_ s m bel meth cd hE hK hP hD ls hl
  obtain ⟨hx, hb, hr, hml, hown, hts, hlocks⟩ := hE
  have hNW := hK.2
  have hl : lv_has ls 7 [(0, .ref h), (1, .int (nI p)), (2, .int (nI nm))] := hl
  refine lv_aload_n hx hb dX2_change_0 rfl (lv_at hl 0 rfl) ?_
  refine lv_iload_n hx hb dX2_change_1 rfl (lv_at hl 1 rfl) ?_
  -- c_pegOf_i
  refine pw_cVp (As := [.int (nI p)]) (rest := []) (wc := [(h, .inr (2, [.ref qr, .ref qp, .int (nI md), .int (r0), .int (r1), .int (r2), .int (r3)])), (qp, .inl (cP, 4, .inr (.inr (.inr (.inr (fun i => some (po i)))))))]) ⟨hx, hb, hml, hown, hts⟩ (c_pegOf_i l D cI cP cR h qr qp md r0 r1 r2 r3 po p (by omega)) (cwV 1 hts gX2_change_X2_pegOf rfl rfl rfl (by decide +kernel) ⟨Nat.le_of_ble_eq_true rfl, Nat.le_of_ble_eq_true rfl⟩) hK hP hD [0, 1] rfl (by decide) 0 rfl rfl rfl rfl hl.1 rfl (Nat.le_of_ble_eq_true rfl) dX2_change_2 ⟨Nat.zero_le _, Nat.zero_le _⟩ ?_
  refine lv_astore_n (lv' := [(3, .ref (po p)), (0, .ref h), (1, .int (nI p)), (2, .int (nI nm))]) hx hb dX2_change_5 rfl hl (by decide) rfl (fun ls hl => ?_)
  refine lv_aload_n hx hb dX2_change_6 rfl (lv_at hl 0 rfl) ?_
  refine lv_ifnull hx hb dX2_change_7 ?_
  refine lv_iload_n hx hb dX2_change_10 rfl (lv_at hl 3 rfl) ?_
  -- c_isName_t
  refine pw_cSp (As := [.int (nI nm)]) (rest := []) ⟨hx, hb, hml, hown, hts⟩ (c_isName_t l D cI cP cR nm (by omega)) (va_cwS 1 hts gX2_change_X2_isName rfl rfl rfl (by decide +kernel) ⟨Nat.le_of_ble_eq_true rfl, Nat.le_of_ble_eq_true rfl⟩) hK rfl hl.1 rfl (Nat.le_of_ble_eq_true rfl) dX2_change_11 ⟨Nat.zero_le _, Nat.zero_le _⟩ ?_
  refine lv_if_ne (tgt := 19) hx hb dX2_change_14 (by decide) (fun c => ?_) (fun c => absurd c (by decide))
  refine lv_aload_n hx hb dX2_change_19 rfl (lv_at hl 0 rfl) ?_
  refine va_getN (D := D) (ci := 0) (v := .null) (C := RX0) (T := TX0) (N := 6) hx hb hts hi_X2_change_0 hown hK.1 hP 2 rfl rfl 0 (by decide) (va_Nw.use rfl hNW.2.1) (fun _ h9 => h9) rfl dX2_change_20 ?_
  refine lv_astoreN (lv' := [(4, .null), (3, .ref (po p)), (0, .ref h), (1, .int (nI p)), (2, .int (nI nm))]) hx hb dX2_change_23 hl (by decide) rfl (fun ls hl => ?_)
  refine lv_aloadN hx hb dX2_change_25 (lv_at hl 0 rfl) ?_
  refine lv_ifnonnullN hx hb dX2_change_27 ?_
  refine lv_bipush (v := -2) hx hb dX2_change_30 (by decide) ?_
  exact pw_piret hx hb hr (rfl) hlocks dX2_change_32 (rfl)
set_option maxHeartbeats 4000000 in
set_option maxRecDepth 100000 in
theorem k_add_x (l : Launch) (D : va_G) (cI cP cR : ClassId) (h qr qp md : Nat) (r0 r1 r2 r3 : Int32) (po : Nat → Nat) (peg name : Int32) (hbad : ¬ ((0 ≤ peg ∧ peg < nI 4) ∧ (0 ≤ name ∧ name < nI 10))) : pw_Mp l yX2_add wsX2_add ({ frames := 2, cells := 0, slots := 0, locals := 45 } : Room) D cI cP cR [.ref h, .int (peg), .int (name)] ([(h, .inr (2, [.ref qr, .ref qp, .int (nI md), .int (r0), .int (r1), .int (r2), .int (r3)])), (qp, .inl (cP, 4, .inr (.inr (.inr (.inr (fun i => some (po i)))))))]) (.int (-1)) := by
  refine pw_ofp (cc := cX2_add) (maxL := 5) (ret := (some .int)) (own := RX2) (by decide +kernel) rfl rfl (Nat.le_of_ble_eq_true rfl) ?_
  intro p_ e_ s m bel meth cd hE hK hP hD ls hl
  obtain ⟨hx, hb, hr, hml, hown, hts, hlocks⟩ := hE
  have hNW := hK.2
  have hl : lv_has ls 5 [(0, .ref h), (1, .int (peg)), (2, .int (name))] := hl
  by_cases hx_peg : 0 ≤ peg ∧ peg < nI 4
  · obtain ⟨pj_1, hpj_1, rfl⟩ := pw_inP (by decide) hx_peg
    refine lv_aload_n hx hb dX2_add_0 rfl (lv_at hl 0 rfl) ?_
    refine lv_iload_n hx hb dX2_add_1 rfl (lv_at hl 1 rfl) ?_
    -- c_pegOf_i
    refine pw_cVp (As := [.int (nI pj_1)]) (rest := []) (wc := [(h, .inr (2, [.ref qr, .ref qp, .int (nI md), .int (r0), .int (r1), .int (r2), .int (r3)])), (qp, .inl (cP, 4, .inr (.inr (.inr (.inr (fun i => some (po i)))))))]) ⟨hx, hb, hml, hown, hts⟩ (c_pegOf_i l D cI cP cR h qr qp md r0 r1 r2 r3 po pj_1 (by omega)) (cwV 1 hts gX2_add_X2_pegOf rfl rfl rfl (by decide +kernel) ⟨Nat.le_of_ble_eq_true rfl, Nat.le_of_ble_eq_true rfl⟩) hK hP hD [0, 1] rfl (by decide) 0 rfl rfl rfl rfl hl.1 rfl (Nat.le_of_ble_eq_true rfl) dX2_add_2 ⟨Nat.zero_le _, Nat.zero_le _⟩ ?_
    refine lv_astore_n (lv' := [(3, .ref (po pj_1)), (0, .ref h), (1, .int (nI pj_1)), (2, .int (name))]) hx hb dX2_add_5 rfl hl (by decide) rfl (fun ls hl => ?_)
    refine lv_aload_n hx hb dX2_add_6 rfl (lv_at hl 0 rfl) ?_
    refine lv_ifnull hx hb dX2_add_7 ?_
    refine lv_iload_n hx hb dX2_add_10 rfl (lv_at hl 3 rfl) ?_
    -- c_isName_f
    refine pw_cSp (As := [.int (name)]) (rest := []) ⟨hx, hb, hml, hown, hts⟩ (c_isName_f l D cI cP cR name (fun h => hbad ⟨hx_peg, h⟩)) (va_cwS 1 hts gX2_add_X2_isName rfl rfl rfl (by decide +kernel) ⟨Nat.le_of_ble_eq_true rfl, Nat.le_of_ble_eq_true rfl⟩) hK rfl hl.1 rfl (Nat.le_of_ble_eq_true rfl) dX2_add_11 ⟨Nat.zero_le _, Nat.zero_le _⟩ ?_
    refine lv_if_ne (tgt := 19) hx hb dX2_add_14 (by decide) (fun c => absurd c (by decide)) (fun c => ?_)
    refine lv_iconst (v := -1) hx hb dX2_add_17 (by decide) ?_
    exact pw_piret hx hb hr (rfl) hlocks dX2_add_18 (rfl)
  · have _h := hx_peg
    refine lv_aload_n hx hb dX2_add_0 rfl (lv_at hl 0 rfl) ?_
    refine lv_iload_n hx hb dX2_add_1 rfl (lv_at hl 1 rfl) ?_
    -- c_pegOf_n
    refine pw_cVp (As := [.int (peg)]) (rest := []) (wc := [(h, .inr (2, [.ref qr, .ref qp, .int (nI md), .int (r0), .int (r1), .int (r2), .int (r3)])), (qp, .inl (cP, 4, .inr (.inr (.inr (.inr (fun i => some (po i)))))))]) ⟨hx, hb, hml, hown, hts⟩ (c_pegOf_n l D cI cP cR h qr qp md r0 r1 r2 r3 po peg hx_peg) (cwV 1 hts gX2_add_X2_pegOf rfl rfl rfl (by decide +kernel) ⟨Nat.le_of_ble_eq_true rfl, Nat.le_of_ble_eq_true rfl⟩) hK hP hD [0, 1] rfl (by decide) 0 rfl rfl rfl rfl hl.1 rfl (Nat.le_of_ble_eq_true rfl) dX2_add_2 ⟨Nat.zero_le _, Nat.zero_le _⟩ ?_
    refine lv_astore_nN (lv' := [(3, .null), (0, .ref h), (1, .int (peg)), (2, .int (name))]) hx hb dX2_add_5 rfl hl (by decide) rfl (fun ls hl => ?_)
    refine lv_aload_nN hx hb dX2_add_6 rfl (lv_at hl 0 rfl) ?_
    refine lv_ifnullN (tgt := 17) hx hb dX2_add_7 (by decide) ?_
    refine lv_iconst (v := -1) hx hb dX2_add_17 (by decide) ?_
    exact pw_piret hx hb hr (rfl) hlocks dX2_add_18 (rfl)
theorem hi_X2_add_0 : ∀ w ∈ u_ws RX0 TX0 6, w ∈ wsX2_add := by decide +kernel
set_option maxHeartbeats 4000000 in
set_option maxRecDepth 100000 in
theorem k_add_n (l : Launch) (D : va_G) (cI cP cR : ClassId) (h qr qp md : Nat) (r0 r1 r2 r3 : Int32) (po : Nat → Nat) (p : Nat) (pa ps ph pt pm : Int32) (hp4 : p < 4) (nm : Nat) (hnm : nm < 10) : pw_Mp l yX2_add wsX2_add ({ frames := 2, cells := 0, slots := 0, locals := 45 } : Room) D cI cP cR [.ref h, .int (nI p), .int (nI nm)] ([(h, .inr (2, [.ref qr, .ref qp, .int (nI md), .int (r0), .int (r1), .int (r2), .int (r3)])), (qp, .inl (cP, 4, .inr (.inr (.inr (.inr (fun i => some (po i))))))), (po p, .inr (0, [.null, .int (pa), .int (ps), .int (ph), .int (pt), .int (pm)]))]) (.int (-2)) := by
  refine pw_ofp (cc := cX2_add) (maxL := 5) (ret := (some .int)) (own := RX2) (by decide +kernel) rfl rfl (Nat.le_of_ble_eq_true rfl) ?_
  intro p_ e_ s m bel meth cd hE hK hP hD ls hl
  obtain ⟨hx, hb, hr, hml, hown, hts, hlocks⟩ := hE
  have hNW := hK.2
  have hl : lv_has ls 5 [(0, .ref h), (1, .int (nI p)), (2, .int (nI nm))] := hl
  refine lv_aload_n hx hb dX2_add_0 rfl (lv_at hl 0 rfl) ?_
  refine lv_iload_n hx hb dX2_add_1 rfl (lv_at hl 1 rfl) ?_
  -- c_pegOf_i
  refine pw_cVp (As := [.int (nI p)]) (rest := []) (wc := [(h, .inr (2, [.ref qr, .ref qp, .int (nI md), .int (r0), .int (r1), .int (r2), .int (r3)])), (qp, .inl (cP, 4, .inr (.inr (.inr (.inr (fun i => some (po i)))))))]) ⟨hx, hb, hml, hown, hts⟩ (c_pegOf_i l D cI cP cR h qr qp md r0 r1 r2 r3 po p (by omega)) (cwV 1 hts gX2_add_X2_pegOf rfl rfl rfl (by decide +kernel) ⟨Nat.le_of_ble_eq_true rfl, Nat.le_of_ble_eq_true rfl⟩) hK hP hD [0, 1] rfl (by decide) 0 rfl rfl rfl rfl hl.1 rfl (Nat.le_of_ble_eq_true rfl) dX2_add_2 ⟨Nat.zero_le _, Nat.zero_le _⟩ ?_
  refine lv_astore_n (lv' := [(3, .ref (po p)), (0, .ref h), (1, .int (nI p)), (2, .int (nI nm))]) hx hb dX2_add_5 rfl hl (by decide) rfl (fun ls hl => ?_)
  refine lv_aload_n hx hb dX2_add_6 rfl (lv_at hl 0 rfl) ?_
  refine lv_ifnull hx hb dX2_add_7 ?_
  refine lv_iload_n hx hb dX2_add_10 rfl (lv_at hl 3 rfl) ?_
  -- c_isName_t
  refine pw_cSp (As := [.int (nI nm)]) (rest := []) ⟨hx, hb, hml, hown, hts⟩ (c_isName_t l D cI cP cR nm (by omega)) (va_cwS 1 hts gX2_add_X2_isName rfl rfl rfl (by decide +kernel) ⟨Nat.le_of_ble_eq_true rfl, Nat.le_of_ble_eq_true rfl⟩) hK rfl hl.1 rfl (Nat.le_of_ble_eq_true rfl) dX2_add_11 ⟨Nat.zero_le _, Nat.zero_le _⟩ ?_
  refine lv_if_ne (tgt := 19) hx hb dX2_add_14 (by decide) (fun c => ?_) (fun c => absurd c (by decide))
  refine lv_aload_n hx hb dX2_add_19 rfl (lv_at hl 0 rfl) ?_
  refine va_getN (D := D) (ci := 0) (v := .null) (C := RX0) (T := TX0) (N := 6) hx hb hts hi_X2_add_0 hown hK.1 hP 2 rfl rfl 0 (by decide) (va_Nw.use rfl hNW.2.1) (fun _ h9 => h9) rfl dX2_add_20 ?_
  refine lv_astoreN (lv' := [(4, .null), (3, .ref (po p)), (0, .ref h), (1, .int (nI p)), (2, .int (nI nm))]) hx hb dX2_add_23 hl (by decide) rfl (fun ls hl => ?_)
  refine lv_aloadN hx hb dX2_add_25 (lv_at hl 0 rfl) ?_
  refine lv_ifnonnullN hx hb dX2_add_27 ?_
  refine lv_bipush (v := -2) hx hb dX2_add_30 (by decide) ?_
  exact pw_piret hx hb hr (rfl) hlocks dX2_add_32 (rfl)
set_option maxHeartbeats 4000000 in
set_option maxRecDepth 100000 in
theorem k_remove_x (l : Launch) (D : va_G) (cI cP cR : ClassId) (h qr qp md : Nat) (r0 r1 r2 r3 : Int32) (po : Nat → Nat) (peg : Int32) (hx_peg : ¬ (0 ≤ peg ∧ peg < nI 4)) : pw_Mp l yX2_remove wsX2_remove ({ frames := 3, cells := 0, slots := 0, locals := 67 } : Room) D cI cP cR [.ref h, .int (peg)] ([(h, .inr (2, [.ref qr, .ref qp, .int (nI md), .int (r0), .int (r1), .int (r2), .int (r3)])), (qp, .inl (cP, 4, .inr (.inr (.inr (.inr (fun i => some (po i)))))))]) (.int (-1)) := by
  refine pw_ofp (cc := cX2_remove) (maxL := 6) (ret := (some .int)) (own := RX2) (by decide +kernel) rfl rfl (Nat.le_of_ble_eq_true rfl) ?_
  intro p_ e_ s m bel meth cd hE hK hP hD ls hl
  obtain ⟨hx, hb, hr, hml, hown, hts, hlocks⟩ := hE
  have hNW := hK.2
  have hl : lv_has ls 6 [(0, .ref h), (1, .int (peg))] := hl
  refine lv_aload_n hx hb dX2_remove_0 rfl (lv_at hl 0 rfl) ?_
  refine lv_iload_n hx hb dX2_remove_1 rfl (lv_at hl 1 rfl) ?_
  -- c_pegOf_n
  refine pw_cVp (As := [.int (peg)]) (rest := []) (wc := [(h, .inr (2, [.ref qr, .ref qp, .int (nI md), .int (r0), .int (r1), .int (r2), .int (r3)])), (qp, .inl (cP, 4, .inr (.inr (.inr (.inr (fun i => some (po i)))))))]) ⟨hx, hb, hml, hown, hts⟩ (c_pegOf_n l D cI cP cR h qr qp md r0 r1 r2 r3 po peg hx_peg) (cwV 1 hts gX2_remove_X2_pegOf rfl rfl rfl (by decide +kernel) ⟨Nat.le_of_ble_eq_true rfl, Nat.le_of_ble_eq_true rfl⟩) hK hP hD [0, 1] rfl (by decide) 0 rfl rfl rfl rfl hl.1 rfl (Nat.le_of_ble_eq_true rfl) dX2_remove_2 ⟨Nat.zero_le _, Nat.zero_le _⟩ ?_
  refine lv_astore_nN (lv' := [(2, .null), (0, .ref h), (1, .int (peg))]) hx hb dX2_remove_5 rfl hl (by decide) rfl (fun ls hl => ?_)
  refine lv_aload_nN hx hb dX2_remove_6 rfl (lv_at hl 0 rfl) ?_
  refine lv_ifnonnullN hx hb dX2_remove_7 ?_
  refine lv_iconst (v := -1) hx hb dX2_remove_10 (by decide) ?_
  exact pw_piret hx hb hr (rfl) hlocks dX2_remove_11 (rfl)
theorem hi_X2_remove_0 : ∀ w ∈ u_ws RX0 TX0 6, w ∈ wsX2_remove := by decide +kernel
set_option maxHeartbeats 4000000 in
set_option maxRecDepth 100000 in
theorem k_remove_n (l : Launch) (D : va_G) (cI cP cR : ClassId) (h qr qp md : Nat) (r0 r1 r2 r3 : Int32) (po : Nat → Nat) (p : Nat) (pa ps ph pt pm : Int32) (hp4 : p < 4) : pw_Mp l yX2_remove wsX2_remove ({ frames := 3, cells := 0, slots := 0, locals := 67 } : Room) D cI cP cR [.ref h, .int (nI p)] ([(h, .inr (2, [.ref qr, .ref qp, .int (nI md), .int (r0), .int (r1), .int (r2), .int (r3)])), (qp, .inl (cP, 4, .inr (.inr (.inr (.inr (fun i => some (po i))))))), (po p, .inr (0, [.null, .int (pa), .int (ps), .int (ph), .int (pt), .int (pm)]))]) (.int (-2)) := by
  refine pw_ofp (cc := cX2_remove) (maxL := 6) (ret := (some .int)) (own := RX2) (by decide +kernel) rfl rfl (Nat.le_of_ble_eq_true rfl) ?_
  intro p_ e_ s m bel meth cd hE hK hP hD ls hl
  obtain ⟨hx, hb, hr, hml, hown, hts, hlocks⟩ := hE
  have hNW := hK.2
  have hl : lv_has ls 6 [(0, .ref h), (1, .int (nI p))] := hl
  refine lv_aload_n hx hb dX2_remove_0 rfl (lv_at hl 0 rfl) ?_
  refine lv_iload_n hx hb dX2_remove_1 rfl (lv_at hl 1 rfl) ?_
  -- c_pegOf_i
  refine pw_cVp (As := [.int (nI p)]) (rest := []) (wc := [(h, .inr (2, [.ref qr, .ref qp, .int (nI md), .int (r0), .int (r1), .int (r2), .int (r3)])), (qp, .inl (cP, 4, .inr (.inr (.inr (.inr (fun i => some (po i)))))))]) ⟨hx, hb, hml, hown, hts⟩ (c_pegOf_i l D cI cP cR h qr qp md r0 r1 r2 r3 po p (by omega)) (cwV 1 hts gX2_remove_X2_pegOf rfl rfl rfl (by decide +kernel) ⟨Nat.le_of_ble_eq_true rfl, Nat.le_of_ble_eq_true rfl⟩) hK hP hD [0, 1] rfl (by decide) 0 rfl rfl rfl rfl hl.1 rfl (Nat.le_of_ble_eq_true rfl) dX2_remove_2 ⟨Nat.zero_le _, Nat.zero_le _⟩ ?_
  refine lv_astore_n (lv' := [(2, .ref (po p)), (0, .ref h), (1, .int (nI p))]) hx hb dX2_remove_5 rfl hl (by decide) rfl (fun ls hl => ?_)
  refine lv_aload_n hx hb dX2_remove_6 rfl (lv_at hl 0 rfl) ?_
  refine lv_ifnonnull (tgt := 12) hx hb dX2_remove_7 (by decide) ?_
  refine lv_aload_n hx hb dX2_remove_12 rfl (lv_at hl 0 rfl) ?_
  refine va_getN (D := D) (ci := 0) (v := .null) (C := RX0) (T := TX0) (N := 6) hx hb hts hi_X2_remove_0 hown hK.1 hP 2 rfl rfl 0 (by decide) (va_Nw.use rfl hNW.2.1) (fun _ h9 => h9) rfl dX2_remove_13 ?_
  refine lv_astore_nN (lv' := [(3, .null), (2, .ref (po p)), (0, .ref h), (1, .int (nI p))]) hx hb dX2_remove_16 rfl hl (by decide) rfl (fun ls hl => ?_)
  refine lv_aload_nN hx hb dX2_remove_17 rfl (lv_at hl 0 rfl) ?_
  refine lv_ifnonnullN hx hb dX2_remove_18 ?_
  refine lv_bipush (v := -2) hx hb dX2_remove_21 (by decide) ?_
  exact pw_piret hx hb hr (rfl) hlocks dX2_remove_23 (rfl)
set_option maxHeartbeats 4000000 in
set_option maxRecDepth 100000 in
theorem k_change_o (l : Launch) (D : va_G) (cI cP cR : ClassId) (h qr qp md : Nat) (r0 r1 r2 r3 : Int32) (po ro : Nat → Nat) (p i a n : Nat) (ch : Int32) (f : Nat → Int32) (pa ps ph pt pm : Int32) (hp4 : p < 4) (hi : i < 3) (hn : n ≤ 60) (ho : ¬ ps = ch) (nm : Nat) (hnm : nm < 10) : pw_Mm l yX2_change wsX2_change ({ frames := 3, cells := 0, slots := 0, locals := 67 } : Room) D cI cP cR [.ref h, .int (nI p), .int (nI nm)] ([(h, .inr (2, [.ref qr, .ref qp, .int (nI md), .int (r0), .int (r1), .int (r2), .int (r3)])), (qp, .inl (cP, 4, .inr (.inr (.inr (.inr (fun i => some (po i))))))), (po p, .inr (0, [.ref (ro i), .int (pa), .int (ps), .int (ph), .int (pt), .int (pm)])), (ro i, .inr (1, [.ref a, .int (nI n), .int (ch)])), (a, .inl (cI, 60, .inl (f)))]) (fun v w => v = some (.int (-4)) ∧ w = [(h, .inr (2, [.ref qr, .ref qp, .int (nI md), .int (r0), .int (r1), .int (r2), .int (r3 + nI 1)])), (qp, .inl (cP, 4, .inr (.inr (.inr (.inr (fun i => some (po i))))))), (po p, .inr (0, [.ref (ro i), .int (pa), .int (ps), .int (ph), .int (pt), .int (pm)])), (ro i, .inr (1, [.ref a, .int (nI n), .int (ch)])), (a, .inl (cI, 60, .inl (f)))]) := by
  refine pw_ofm (cc := cX2_change) (maxL := 7) (ret := (some .int)) (own := RX2) (by decide +kernel) rfl rfl (Nat.le_of_ble_eq_true rfl) ?_
  intro p_ e_ s m bel meth cd A hE hK hP hD hA hS ls hl
  obtain ⟨hx, hb, hr, hml, hown, hts, hlocks⟩ := hE
  have hNW := hK.2
  have hl : lv_has ls 7 [(0, .ref h), (1, .int (nI p)), (2, .int (nI nm))] := hl
  refine lv_aload_n hx hb dX2_change_0 rfl (lv_at hl 0 rfl) ?_
  refine lv_iload_n hx hb dX2_change_1 rfl (lv_at hl 1 rfl) ?_
  -- c_pegOf_i
  refine pw_cVp (As := [.int (nI p)]) (rest := []) (wc := [(h, .inr (2, [.ref qr, .ref qp, .int (nI md), .int (r0), .int (r1), .int (r2), .int (r3)])), (qp, .inl (cP, 4, .inr (.inr (.inr (.inr (fun i => some (po i)))))))]) ⟨hx, hb, hml, hown, hts⟩ (c_pegOf_i l D cI cP cR h qr qp md r0 r1 r2 r3 po p (by omega)) (cwV 1 hts gX2_change_X2_pegOf rfl rfl rfl (by decide +kernel) ⟨Nat.le_of_ble_eq_true rfl, Nat.le_of_ble_eq_true rfl⟩) hK hP hD [0, 1] rfl (by decide) 0 rfl rfl rfl rfl hl.1 rfl (Nat.le_of_ble_eq_true rfl) dX2_change_2 ⟨Nat.zero_le _, Nat.zero_le _⟩ ?_
  refine lv_astore_n (lv' := [(3, .ref (po p)), (0, .ref h), (1, .int (nI p)), (2, .int (nI nm))]) hx hb dX2_change_5 rfl hl (by decide) rfl (fun ls hl => ?_)
  refine lv_aload_n hx hb dX2_change_6 rfl (lv_at hl 0 rfl) ?_
  refine lv_ifnull hx hb dX2_change_7 ?_
  refine lv_iload_n hx hb dX2_change_10 rfl (lv_at hl 3 rfl) ?_
  -- c_isName_t
  refine pw_cSp (As := [.int (nI nm)]) (rest := []) ⟨hx, hb, hml, hown, hts⟩ (c_isName_t l D cI cP cR nm (by omega)) (va_cwS 1 hts gX2_change_X2_isName rfl rfl rfl (by decide +kernel) ⟨Nat.le_of_ble_eq_true rfl, Nat.le_of_ble_eq_true rfl⟩) hK rfl hl.1 rfl (Nat.le_of_ble_eq_true rfl) dX2_change_11 ⟨Nat.zero_le _, Nat.zero_le _⟩ ?_
  refine lv_if_ne (tgt := 19) hx hb dX2_change_14 (by decide) (fun c => ?_) (fun c => absurd c (by decide))
  refine lv_aload_n hx hb dX2_change_19 rfl (lv_at hl 0 rfl) ?_
  refine va_getN (D := D) (ci := 0) (v := .ref (ro i)) (C := RX0) (T := TX0) (N := 6) hx hb hts hi_X2_change_0 hown hK.1 hP 2 rfl rfl 0 (by decide) (va_Nw.use rfl hNW.2.1) (fun _ h9 => h9) rfl dX2_change_20 ?_
  refine lv_astore (lv' := [(4, .ref (ro i)), (3, .ref (po p)), (0, .ref h), (1, .int (nI p)), (2, .int (nI nm))]) hx hb dX2_change_23 hl (by decide) rfl (fun ls hl => ?_)
  refine lv_aload hx hb dX2_change_25 (lv_at hl 0 rfl) ?_
  refine lv_ifnonnull (tgt := 33) hx hb dX2_change_27 (by decide) ?_
  refine lv_aload_n hx hb dX2_change_33 rfl (lv_at hl 2 rfl) ?_
  refine lv_aload_n hx hb dX2_change_34 rfl (lv_at hl 1 rfl) ?_
  refine lv_aload hx hb dX2_change_35 (lv_at hl 0 rfl) ?_
  -- c_hf_o
  refine pw_cVm (As := [.ref (po p), .ref (ro i)]) (rest := []) (wc := [(h, .inr (2, [.ref qr, .ref qp, .int (nI md), .int (r0), .int (r1), .int (r2), .int (r3)])), (qp, .inl (cP, 4, .inr (.inr (.inr (.inr (fun i => some (po i))))))), (po p, .inr (0, [.ref (ro i), .int (pa), .int (ps), .int (ph), .int (pt), .int (pm)])), (ro i, .inr (1, [.ref a, .int (nI n), .int (ch)])), (a, .inl (cI, 60, .inl (f)))]) (wr := []) ⟨hx, hb, hml, hown, hts⟩ (c_hf_o l D cI cP cR h qr qp md r0 r1 r2 r3 po ro p i a n ch f pa ps ph pt pm (by omega) (by omega) (by omega) ho) (cwV 2 hts gX2_change_X2_handFault rfl rfl rfl (by decide +kernel) ⟨Nat.le_of_ble_eq_true rfl, Nat.le_of_ble_eq_true rfl⟩) hK hP hD hS hA [0, 1, 2, 3, 4] [] rfl rfl (by decide) (by decide) (by decide) 0 rfl rfl rfl rfl hl.1 rfl (Nat.le_of_ble_eq_true rfl) dX2_change_37 ⟨Nat.zero_le _, Nat.zero_le _⟩ (fun v1 w1 H locs hq hP hD hS => ?_)
  rcases hq with ⟨rfl, rfl⟩
  have hP : va_P D vwCl ([(h, .inr (2, [.ref qr, .ref qp, .int (nI md), .int (r0), .int (r1), .int (r2), .int (r3 + nI 1)])), (qp, .inl (cP, 4, .inr (.inr (.inr (.inr (fun i => some (po i))))))), (po p, .inr (0, [.ref (ro i), .int (pa), .int (ps), .int (ph), .int (pt), .int (pm)])), (ro i, .inr (1, [.ref a, .int (nI n), .int (ch)])), (a, .inl (cI, 60, .inl (f)))]) H := hP
  have hD : va_D A ([(h, .inr (2, [.ref qr, .ref qp, .int (nI md), .int (r0), .int (r1), .int (r2), .int (r3 + nI 1)])), (qp, .inl (cP, 4, .inr (.inr (.inr (.inr (fun i => some (po i))))))), (po p, .inr (0, [.ref (ro i), .int (pa), .int (ps), .int (ph), .int (pt), .int (pm)])), (ro i, .inr (1, [.ref a, .int (nI n), .int (ch)])), (a, .inl (cI, 60, .inl (f)))]) := hD
  refine W.eq (g2 := F0 m 40 ls [.int (-4)]) rfl ?_
  refine lv_istore (lv' := [(5, .int (-4)), (4, .ref (ro i)), (3, .ref (po p)), (0, .ref h), (1, .int (nI p)), (2, .int (nI nm))]) hx hb dX2_change_40 hl (by decide) rfl (fun ls hl => ?_)
  refine lv_iload hx hb dX2_change_42 (lv_at hl 0 rfl) ?_
  refine lv_if_eq (tgt := 50) hx hb dX2_change_44 (by decide) (fun c => absurd c (by decide)) (fun c => ?_)
  refine lv_iload hx hb dX2_change_47 (lv_at hl 0 rfl) ?_
  exact pw_iret hx hb hr (rfl) hlocks dX2_change_49 hS hP hD (⟨rfl, rfl⟩)
set_option maxHeartbeats 4000000 in
set_option maxRecDepth 100000 in
theorem k_change_m (l : Launch) (D : va_G) (cI cP cR : ClassId) (h qr qp md : Nat) (r0 r1 r2 r3 : Int32) (po ro : Nat → Nat) (p i a n : Nat) (ch : Int32) (f : Nat → Int32) (pa ps ph pt pm : Int32) (hp4 : p < 4) (hi : i < 3) (hn : n ≤ 60) (ho : ps = ch) (hw : 0 ≤ pa ∧ pa ≤ nI n) (nm : Nat) (hnm : nm < 10) : pw_Mp l yX2_change wsX2_change ({ frames := 3, cells := 0, slots := 0, locals := 67 } : Room) D cI cP cR [.ref h, .int (nI p), .int (nI nm)] ([(h, .inr (2, [.ref qr, .ref qp, .int (nI md), .int (r0), .int (r1), .int (r2), .int (r3)])), (qp, .inl (cP, 4, .inr (.inr (.inr (.inr (fun i => some (po i))))))), (po p, .inr (0, [.ref (ro i), .int (pa), .int (ps), .int (ph), .int (pt), .int (nI 1)])), (ro i, .inr (1, [.ref a, .int (nI n), .int (ch)])), (a, .inl (cI, 60, .inl (f)))]) (.int (-8)) := by
  refine pw_ofp (cc := cX2_change) (maxL := 7) (ret := (some .int)) (own := RX2) (by decide +kernel) rfl rfl (Nat.le_of_ble_eq_true rfl) ?_
  intro p_ e_ s m bel meth cd hE hK hP hD ls hl
  obtain ⟨hx, hb, hr, hml, hown, hts, hlocks⟩ := hE
  have hNW := hK.2
  have hl : lv_has ls 7 [(0, .ref h), (1, .int (nI p)), (2, .int (nI nm))] := hl
  refine lv_aload_n hx hb dX2_change_0 rfl (lv_at hl 0 rfl) ?_
  refine lv_iload_n hx hb dX2_change_1 rfl (lv_at hl 1 rfl) ?_
  -- c_pegOf_i
  refine pw_cVp (As := [.int (nI p)]) (rest := []) (wc := [(h, .inr (2, [.ref qr, .ref qp, .int (nI md), .int (r0), .int (r1), .int (r2), .int (r3)])), (qp, .inl (cP, 4, .inr (.inr (.inr (.inr (fun i => some (po i)))))))]) ⟨hx, hb, hml, hown, hts⟩ (c_pegOf_i l D cI cP cR h qr qp md r0 r1 r2 r3 po p (by omega)) (cwV 1 hts gX2_change_X2_pegOf rfl rfl rfl (by decide +kernel) ⟨Nat.le_of_ble_eq_true rfl, Nat.le_of_ble_eq_true rfl⟩) hK hP hD [0, 1] rfl (by decide) 0 rfl rfl rfl rfl hl.1 rfl (Nat.le_of_ble_eq_true rfl) dX2_change_2 ⟨Nat.zero_le _, Nat.zero_le _⟩ ?_
  refine lv_astore_n (lv' := [(3, .ref (po p)), (0, .ref h), (1, .int (nI p)), (2, .int (nI nm))]) hx hb dX2_change_5 rfl hl (by decide) rfl (fun ls hl => ?_)
  refine lv_aload_n hx hb dX2_change_6 rfl (lv_at hl 0 rfl) ?_
  refine lv_ifnull hx hb dX2_change_7 ?_
  refine lv_iload_n hx hb dX2_change_10 rfl (lv_at hl 3 rfl) ?_
  -- c_isName_t
  refine pw_cSp (As := [.int (nI nm)]) (rest := []) ⟨hx, hb, hml, hown, hts⟩ (c_isName_t l D cI cP cR nm (by omega)) (va_cwS 1 hts gX2_change_X2_isName rfl rfl rfl (by decide +kernel) ⟨Nat.le_of_ble_eq_true rfl, Nat.le_of_ble_eq_true rfl⟩) hK rfl hl.1 rfl (Nat.le_of_ble_eq_true rfl) dX2_change_11 ⟨Nat.zero_le _, Nat.zero_le _⟩ ?_
  refine lv_if_ne (tgt := 19) hx hb dX2_change_14 (by decide) (fun c => ?_) (fun c => absurd c (by decide))
  refine lv_aload_n hx hb dX2_change_19 rfl (lv_at hl 0 rfl) ?_
  refine va_getN (D := D) (ci := 0) (v := .ref (ro i)) (C := RX0) (T := TX0) (N := 6) hx hb hts hi_X2_change_0 hown hK.1 hP 2 rfl rfl 0 (by decide) (va_Nw.use rfl hNW.2.1) (fun _ h9 => h9) rfl dX2_change_20 ?_
  refine lv_astore (lv' := [(4, .ref (ro i)), (3, .ref (po p)), (0, .ref h), (1, .int (nI p)), (2, .int (nI nm))]) hx hb dX2_change_23 hl (by decide) rfl (fun ls hl => ?_)
  refine lv_aload hx hb dX2_change_25 (lv_at hl 0 rfl) ?_
  refine lv_ifnonnull (tgt := 33) hx hb dX2_change_27 (by decide) ?_
  refine lv_aload_n hx hb dX2_change_33 rfl (lv_at hl 2 rfl) ?_
  refine lv_aload_n hx hb dX2_change_34 rfl (lv_at hl 1 rfl) ?_
  refine lv_aload hx hb dX2_change_35 (lv_at hl 0 rfl) ?_
  -- c_hf_m
  refine pw_cVp (As := [.ref (po p), .ref (ro i)]) (rest := []) (wc := [(h, .inr (2, [.ref qr, .ref qp, .int (nI md), .int (r0), .int (r1), .int (r2), .int (r3)])), (qp, .inl (cP, 4, .inr (.inr (.inr (.inr (fun i => some (po i))))))), (po p, .inr (0, [.ref (ro i), .int (pa), .int (ps), .int (ph), .int (pt), .int (nI 1)])), (ro i, .inr (1, [.ref a, .int (nI n), .int (ch)])), (a, .inl (cI, 60, .inl (f)))]) ⟨hx, hb, hml, hown, hts⟩ (c_hf_m l D cI cP cR h qr qp md r0 r1 r2 r3 po ro p i a n ch f pa ps ph pt pm (by omega) (by omega) (by omega) ho hw) (cwV 2 hts gX2_change_X2_handFault rfl rfl rfl (by decide +kernel) ⟨Nat.le_of_ble_eq_true rfl, Nat.le_of_ble_eq_true rfl⟩) hK hP hD [0, 1, 2, 3, 4] rfl (by decide) 0 rfl rfl rfl rfl hl.1 rfl (Nat.le_of_ble_eq_true rfl) dX2_change_37 ⟨Nat.zero_le _, Nat.zero_le _⟩ ?_
  refine lv_istore (lv' := [(5, .int (-8)), (4, .ref (ro i)), (3, .ref (po p)), (0, .ref h), (1, .int (nI p)), (2, .int (nI nm))]) hx hb dX2_change_40 hl (by decide) rfl (fun ls hl => ?_)
  refine lv_iload hx hb dX2_change_42 (lv_at hl 0 rfl) ?_
  refine lv_if_eq (tgt := 50) hx hb dX2_change_44 (by decide) (fun c => absurd c (by decide)) (fun c => ?_)
  refine lv_iload hx hb dX2_change_47 (lv_at hl 0 rfl) ?_
  exact pw_piret hx hb hr (rfl) hlocks dX2_change_49 (rfl)
set_option maxHeartbeats 4000000 in
set_option maxRecDepth 100000 in
theorem k_change_s (l : Launch) (D : va_G) (cI cP cR : ClassId) (h qr qp md : Nat) (r0 r1 r2 r3 : Int32) (po ro : Nat → Nat) (p i a n : Nat) (ch : Int32) (f : Nat → Int32) (pa ps ph pt pm : Int32) (hp4 : p < 4) (hi : i < 3) (hn : n ≤ 60) (ho : ps = ch) (hw : 0 ≤ pa ∧ pa ≤ nI n) (hq : ¬ (0 ≤ ph ∧ ph < nI n)) (nm : Nat) (hnm : nm < 10) : pw_Mm l yX2_change wsX2_change ({ frames := 3, cells := 0, slots := 0, locals := 67 } : Room) D cI cP cR [.ref h, .int (nI p), .int (nI nm)] ([(h, .inr (2, [.ref qr, .ref qp, .int (nI md), .int (r0), .int (r1), .int (r2), .int (r3)])), (qp, .inl (cP, 4, .inr (.inr (.inr (.inr (fun i => some (po i))))))), (po p, .inr (0, [.ref (ro i), .int (pa), .int (ps), .int (ph), .int (pt), .int (nI 0)])), (ro i, .inr (1, [.ref a, .int (nI n), .int (ch)])), (a, .inl (cI, 60, .inl (f)))]) (fun v w => v = some (.int (-7)) ∧ w = [(h, .inr (2, [.ref qr, .ref qp, .int (nI md), .int (r0), .int (r1), .int (r2 + nI 1), .int (r3)])), (qp, .inl (cP, 4, .inr (.inr (.inr (.inr (fun i => some (po i))))))), (po p, .inr (0, [.ref (ro i), .int (pa), .int (ps), .int (ph), .int (pt), .int (nI 0)])), (ro i, .inr (1, [.ref a, .int (nI n), .int (ch)])), (a, .inl (cI, 60, .inl (f)))]) := by
  refine pw_ofm (cc := cX2_change) (maxL := 7) (ret := (some .int)) (own := RX2) (by decide +kernel) rfl rfl (Nat.le_of_ble_eq_true rfl) ?_
  intro p_ e_ s m bel meth cd A hE hK hP hD hA hS ls hl
  obtain ⟨hx, hb, hr, hml, hown, hts, hlocks⟩ := hE
  have hNW := hK.2
  have hl : lv_has ls 7 [(0, .ref h), (1, .int (nI p)), (2, .int (nI nm))] := hl
  refine lv_aload_n hx hb dX2_change_0 rfl (lv_at hl 0 rfl) ?_
  refine lv_iload_n hx hb dX2_change_1 rfl (lv_at hl 1 rfl) ?_
  -- c_pegOf_i
  refine pw_cVp (As := [.int (nI p)]) (rest := []) (wc := [(h, .inr (2, [.ref qr, .ref qp, .int (nI md), .int (r0), .int (r1), .int (r2), .int (r3)])), (qp, .inl (cP, 4, .inr (.inr (.inr (.inr (fun i => some (po i)))))))]) ⟨hx, hb, hml, hown, hts⟩ (c_pegOf_i l D cI cP cR h qr qp md r0 r1 r2 r3 po p (by omega)) (cwV 1 hts gX2_change_X2_pegOf rfl rfl rfl (by decide +kernel) ⟨Nat.le_of_ble_eq_true rfl, Nat.le_of_ble_eq_true rfl⟩) hK hP hD [0, 1] rfl (by decide) 0 rfl rfl rfl rfl hl.1 rfl (Nat.le_of_ble_eq_true rfl) dX2_change_2 ⟨Nat.zero_le _, Nat.zero_le _⟩ ?_
  refine lv_astore_n (lv' := [(3, .ref (po p)), (0, .ref h), (1, .int (nI p)), (2, .int (nI nm))]) hx hb dX2_change_5 rfl hl (by decide) rfl (fun ls hl => ?_)
  refine lv_aload_n hx hb dX2_change_6 rfl (lv_at hl 0 rfl) ?_
  refine lv_ifnull hx hb dX2_change_7 ?_
  refine lv_iload_n hx hb dX2_change_10 rfl (lv_at hl 3 rfl) ?_
  -- c_isName_t
  refine pw_cSp (As := [.int (nI nm)]) (rest := []) ⟨hx, hb, hml, hown, hts⟩ (c_isName_t l D cI cP cR nm (by omega)) (va_cwS 1 hts gX2_change_X2_isName rfl rfl rfl (by decide +kernel) ⟨Nat.le_of_ble_eq_true rfl, Nat.le_of_ble_eq_true rfl⟩) hK rfl hl.1 rfl (Nat.le_of_ble_eq_true rfl) dX2_change_11 ⟨Nat.zero_le _, Nat.zero_le _⟩ ?_
  refine lv_if_ne (tgt := 19) hx hb dX2_change_14 (by decide) (fun c => ?_) (fun c => absurd c (by decide))
  refine lv_aload_n hx hb dX2_change_19 rfl (lv_at hl 0 rfl) ?_
  refine va_getN (D := D) (ci := 0) (v := .ref (ro i)) (C := RX0) (T := TX0) (N := 6) hx hb hts hi_X2_change_0 hown hK.1 hP 2 rfl rfl 0 (by decide) (va_Nw.use rfl hNW.2.1) (fun _ h9 => h9) rfl dX2_change_20 ?_
  refine lv_astore (lv' := [(4, .ref (ro i)), (3, .ref (po p)), (0, .ref h), (1, .int (nI p)), (2, .int (nI nm))]) hx hb dX2_change_23 hl (by decide) rfl (fun ls hl => ?_)
  refine lv_aload hx hb dX2_change_25 (lv_at hl 0 rfl) ?_
  refine lv_ifnonnull (tgt := 33) hx hb dX2_change_27 (by decide) ?_
  refine lv_aload_n hx hb dX2_change_33 rfl (lv_at hl 2 rfl) ?_
  refine lv_aload_n hx hb dX2_change_34 rfl (lv_at hl 1 rfl) ?_
  refine lv_aload hx hb dX2_change_35 (lv_at hl 0 rfl) ?_
  -- c_hf_s
  refine pw_cVm (As := [.ref (po p), .ref (ro i)]) (rest := []) (wc := [(h, .inr (2, [.ref qr, .ref qp, .int (nI md), .int (r0), .int (r1), .int (r2), .int (r3)])), (qp, .inl (cP, 4, .inr (.inr (.inr (.inr (fun i => some (po i))))))), (po p, .inr (0, [.ref (ro i), .int (pa), .int (ps), .int (ph), .int (pt), .int (nI 0)])), (ro i, .inr (1, [.ref a, .int (nI n), .int (ch)])), (a, .inl (cI, 60, .inl (f)))]) (wr := []) ⟨hx, hb, hml, hown, hts⟩ (c_hf_s l D cI cP cR h qr qp md r0 r1 r2 r3 po ro p i a n ch f pa ps ph pt pm (by omega) (by omega) (by omega) ho hw hq) (cwV 2 hts gX2_change_X2_handFault rfl rfl rfl (by decide +kernel) ⟨Nat.le_of_ble_eq_true rfl, Nat.le_of_ble_eq_true rfl⟩) hK hP hD hS hA [0, 1, 2, 3, 4] [] rfl rfl (by decide) (by decide) (by decide) 0 rfl rfl rfl rfl hl.1 rfl (Nat.le_of_ble_eq_true rfl) dX2_change_37 ⟨Nat.zero_le _, Nat.zero_le _⟩ (fun v1 w1 H locs hq hP hD hS => ?_)
  rcases hq with ⟨rfl, rfl⟩
  have hP : va_P D vwCl ([(h, .inr (2, [.ref qr, .ref qp, .int (nI md), .int (r0), .int (r1), .int (r2 + nI 1), .int (r3)])), (qp, .inl (cP, 4, .inr (.inr (.inr (.inr (fun i => some (po i))))))), (po p, .inr (0, [.ref (ro i), .int (pa), .int (ps), .int (ph), .int (pt), .int (nI 0)])), (ro i, .inr (1, [.ref a, .int (nI n), .int (ch)])), (a, .inl (cI, 60, .inl (f)))]) H := hP
  have hD : va_D A ([(h, .inr (2, [.ref qr, .ref qp, .int (nI md), .int (r0), .int (r1), .int (r2 + nI 1), .int (r3)])), (qp, .inl (cP, 4, .inr (.inr (.inr (.inr (fun i => some (po i))))))), (po p, .inr (0, [.ref (ro i), .int (pa), .int (ps), .int (ph), .int (pt), .int (nI 0)])), (ro i, .inr (1, [.ref a, .int (nI n), .int (ch)])), (a, .inl (cI, 60, .inl (f)))]) := hD
  refine W.eq (g2 := F0 m 40 ls [.int (-7)]) rfl ?_
  refine lv_istore (lv' := [(5, .int (-7)), (4, .ref (ro i)), (3, .ref (po p)), (0, .ref h), (1, .int (nI p)), (2, .int (nI nm))]) hx hb dX2_change_40 hl (by decide) rfl (fun ls hl => ?_)
  refine lv_iload hx hb dX2_change_42 (lv_at hl 0 rfl) ?_
  refine lv_if_eq (tgt := 50) hx hb dX2_change_44 (by decide) (fun c => absurd c (by decide)) (fun c => ?_)
  refine lv_iload hx hb dX2_change_47 (lv_at hl 0 rfl) ?_
  exact pw_iret hx hb hr (rfl) hlocks dX2_change_49 hS hP hD (⟨rfl, rfl⟩)
set_option maxHeartbeats 4000000 in
set_option maxRecDepth 100000 in
theorem k_change_l (l : Launch) (D : va_G) (cI cP cR : ClassId) (h qr qp md : Nat) (r0 r1 r2 r3 : Int32) (po ro : Nat → Nat) (p i a n : Nat) (ch : Int32) (f : Nat → Int32) (pa ps ph pt pm : Int32) (hp4 : p < 4) (hi : i < 3) (hn : n ≤ 60) (ho : ps = ch) (hw : 0 ≤ pa ∧ pa ≤ nI n) (j : Nat) (hj : j < n) (hd : ¬ f j = pt) (nm : Nat) (hnm : nm < 10) : pw_Mp l yX2_change wsX2_change ({ frames := 3, cells := 0, slots := 0, locals := 67 } : Room) D cI cP cR [.ref h, .int (nI p), .int (nI nm)] ([(h, .inr (2, [.ref qr, .ref qp, .int (nI md), .int (r0), .int (r1), .int (r2), .int (r3)])), (qp, .inl (cP, 4, .inr (.inr (.inr (.inr (fun i => some (po i))))))), (po p, .inr (0, [.ref (ro i), .int (pa), .int (ps), .int (nI j), .int (pt), .int (nI 0)])), (ro i, .inr (1, [.ref a, .int (nI n), .int (ch)])), (a, .inl (cI, 60, .inl (f)))]) (.int (-8)) := by
  refine pw_ofp (cc := cX2_change) (maxL := 7) (ret := (some .int)) (own := RX2) (by decide +kernel) rfl rfl (Nat.le_of_ble_eq_true rfl) ?_
  intro p_ e_ s m bel meth cd hE hK hP hD ls hl
  obtain ⟨hx, hb, hr, hml, hown, hts, hlocks⟩ := hE
  have hNW := hK.2
  have hl : lv_has ls 7 [(0, .ref h), (1, .int (nI p)), (2, .int (nI nm))] := hl
  refine lv_aload_n hx hb dX2_change_0 rfl (lv_at hl 0 rfl) ?_
  refine lv_iload_n hx hb dX2_change_1 rfl (lv_at hl 1 rfl) ?_
  -- c_pegOf_i
  refine pw_cVp (As := [.int (nI p)]) (rest := []) (wc := [(h, .inr (2, [.ref qr, .ref qp, .int (nI md), .int (r0), .int (r1), .int (r2), .int (r3)])), (qp, .inl (cP, 4, .inr (.inr (.inr (.inr (fun i => some (po i)))))))]) ⟨hx, hb, hml, hown, hts⟩ (c_pegOf_i l D cI cP cR h qr qp md r0 r1 r2 r3 po p (by omega)) (cwV 1 hts gX2_change_X2_pegOf rfl rfl rfl (by decide +kernel) ⟨Nat.le_of_ble_eq_true rfl, Nat.le_of_ble_eq_true rfl⟩) hK hP hD [0, 1] rfl (by decide) 0 rfl rfl rfl rfl hl.1 rfl (Nat.le_of_ble_eq_true rfl) dX2_change_2 ⟨Nat.zero_le _, Nat.zero_le _⟩ ?_
  refine lv_astore_n (lv' := [(3, .ref (po p)), (0, .ref h), (1, .int (nI p)), (2, .int (nI nm))]) hx hb dX2_change_5 rfl hl (by decide) rfl (fun ls hl => ?_)
  refine lv_aload_n hx hb dX2_change_6 rfl (lv_at hl 0 rfl) ?_
  refine lv_ifnull hx hb dX2_change_7 ?_
  refine lv_iload_n hx hb dX2_change_10 rfl (lv_at hl 3 rfl) ?_
  -- c_isName_t
  refine pw_cSp (As := [.int (nI nm)]) (rest := []) ⟨hx, hb, hml, hown, hts⟩ (c_isName_t l D cI cP cR nm (by omega)) (va_cwS 1 hts gX2_change_X2_isName rfl rfl rfl (by decide +kernel) ⟨Nat.le_of_ble_eq_true rfl, Nat.le_of_ble_eq_true rfl⟩) hK rfl hl.1 rfl (Nat.le_of_ble_eq_true rfl) dX2_change_11 ⟨Nat.zero_le _, Nat.zero_le _⟩ ?_
  refine lv_if_ne (tgt := 19) hx hb dX2_change_14 (by decide) (fun c => ?_) (fun c => absurd c (by decide))
  refine lv_aload_n hx hb dX2_change_19 rfl (lv_at hl 0 rfl) ?_
  refine va_getN (D := D) (ci := 0) (v := .ref (ro i)) (C := RX0) (T := TX0) (N := 6) hx hb hts hi_X2_change_0 hown hK.1 hP 2 rfl rfl 0 (by decide) (va_Nw.use rfl hNW.2.1) (fun _ h9 => h9) rfl dX2_change_20 ?_
  refine lv_astore (lv' := [(4, .ref (ro i)), (3, .ref (po p)), (0, .ref h), (1, .int (nI p)), (2, .int (nI nm))]) hx hb dX2_change_23 hl (by decide) rfl (fun ls hl => ?_)
  refine lv_aload hx hb dX2_change_25 (lv_at hl 0 rfl) ?_
  refine lv_ifnonnull (tgt := 33) hx hb dX2_change_27 (by decide) ?_
  refine lv_aload_n hx hb dX2_change_33 rfl (lv_at hl 2 rfl) ?_
  refine lv_aload_n hx hb dX2_change_34 rfl (lv_at hl 1 rfl) ?_
  refine lv_aload hx hb dX2_change_35 (lv_at hl 0 rfl) ?_
  -- c_hf_l
  refine pw_cVp (As := [.ref (po p), .ref (ro i)]) (rest := []) (wc := [(h, .inr (2, [.ref qr, .ref qp, .int (nI md), .int (r0), .int (r1), .int (r2), .int (r3)])), (qp, .inl (cP, 4, .inr (.inr (.inr (.inr (fun i => some (po i))))))), (po p, .inr (0, [.ref (ro i), .int (pa), .int (ps), .int (nI j), .int (pt), .int (nI 0)])), (ro i, .inr (1, [.ref a, .int (nI n), .int (ch)])), (a, .inl (cI, 60, .inl (f)))]) ⟨hx, hb, hml, hown, hts⟩ (c_hf_l l D cI cP cR h qr qp md r0 r1 r2 r3 po ro p i a n ch f pa ps ph pt pm (by omega) (by omega) (by omega) ho hw j hj hd) (cwV 2 hts gX2_change_X2_handFault rfl rfl rfl (by decide +kernel) ⟨Nat.le_of_ble_eq_true rfl, Nat.le_of_ble_eq_true rfl⟩) hK hP hD [0, 1, 2, 3, 4] rfl (by decide) 0 rfl rfl rfl rfl hl.1 rfl (Nat.le_of_ble_eq_true rfl) dX2_change_37 ⟨Nat.zero_le _, Nat.zero_le _⟩ ?_
  refine lv_istore (lv' := [(5, .int (-8)), (4, .ref (ro i)), (3, .ref (po p)), (0, .ref h), (1, .int (nI p)), (2, .int (nI nm))]) hx hb dX2_change_40 hl (by decide) rfl (fun ls hl => ?_)
  refine lv_iload hx hb dX2_change_42 (lv_at hl 0 rfl) ?_
  refine lv_if_eq (tgt := 50) hx hb dX2_change_44 (by decide) (fun c => absurd c (by decide)) (fun c => ?_)
  refine lv_iload hx hb dX2_change_47 (lv_at hl 0 rfl) ?_
  exact pw_piret hx hb hr (rfl) hlocks dX2_change_49 (rfl)
set_option maxHeartbeats 4000000 in
set_option maxRecDepth 100000 in
theorem k_change (l : Launch) (D : va_G) (cI cP cR : ClassId) (h qr qp md : Nat) (r0 r1 r2 r3 : Int32) (po ro : Nat → Nat) (p i a n : Nat) (ch : Int32) (f : Nat → Int32) (pa ps ph pt pm : Int32) (hp4 : p < 4) (hi : i < 3) (hn : n ≤ 60) (ho : ps = ch) (hw : 0 ≤ pa ∧ pa ≤ nI n) (j : Nat) (hj : j < n) (hd : f j = pt) (nm : Nat) (hnm : nm < 10) : pw_Mm l yX2_change wsX2_change ({ frames := 3, cells := 0, slots := 0, locals := 67 } : Room) D cI cP cR [.ref h, .int (nI p), .int (nI nm)] ([(h, .inr (2, [.ref qr, .ref qp, .int (nI md), .int (r0), .int (r1), .int (r2), .int (r3)])), (qp, .inl (cP, 4, .inr (.inr (.inr (.inr (fun i => some (po i))))))), (po p, .inr (0, [.ref (ro i), .int (pa), .int (ps), .int (nI j), .int (pt), .int (nI 0)])), (ro i, .inr (1, [.ref a, .int (nI n), .int (ch)])), (a, .inl (cI, 60, .inl (f)))]) (fun v w => v = some (.int (f j)) ∧ w = [(h, .inr (2, [.ref qr, .ref qp, .int (nI (md + 1)), .int (r0), .int (r1), .int (r2), .int (r3)])), (qp, .inl (cP, 4, .inr (.inr (.inr (.inr (fun i => some (po i))))))), (po p, .inr (0, [.ref (ro i), .int (pa), .int (ps), .int (nI j), .int (nI ((md * 10) + nm)), .int (nI 0)])), (ro i, .inr (1, [.ref a, .int (nI n), .int (ch)])), (a, .inl (cI, 60, .inl (upd f j (nI ((md * 10) + nm)))))]) := by
  refine pw_ofm (cc := cX2_change) (maxL := 7) (ret := (some .int)) (own := RX2) (by decide +kernel) rfl rfl (Nat.le_of_ble_eq_true rfl) ?_
  intro p_ e_ s m bel meth cd A hE hK hP hD hA hS ls hl
  obtain ⟨hx, hb, hr, hml, hown, hts, hlocks⟩ := hE
  have hNW := hK.2
  have hl : lv_has ls 7 [(0, .ref h), (1, .int (nI p)), (2, .int (nI nm))] := hl
  refine lv_aload_n hx hb dX2_change_0 rfl (lv_at hl 0 rfl) ?_
  refine lv_iload_n hx hb dX2_change_1 rfl (lv_at hl 1 rfl) ?_
  -- c_pegOf_i
  refine pw_cVp (As := [.int (nI p)]) (rest := []) (wc := [(h, .inr (2, [.ref qr, .ref qp, .int (nI md), .int (r0), .int (r1), .int (r2), .int (r3)])), (qp, .inl (cP, 4, .inr (.inr (.inr (.inr (fun i => some (po i)))))))]) ⟨hx, hb, hml, hown, hts⟩ (c_pegOf_i l D cI cP cR h qr qp md r0 r1 r2 r3 po p (by omega)) (cwV 1 hts gX2_change_X2_pegOf rfl rfl rfl (by decide +kernel) ⟨Nat.le_of_ble_eq_true rfl, Nat.le_of_ble_eq_true rfl⟩) hK hP hD [0, 1] rfl (by decide) 0 rfl rfl rfl rfl hl.1 rfl (Nat.le_of_ble_eq_true rfl) dX2_change_2 ⟨Nat.zero_le _, Nat.zero_le _⟩ ?_
  refine lv_astore_n (lv' := [(3, .ref (po p)), (0, .ref h), (1, .int (nI p)), (2, .int (nI nm))]) hx hb dX2_change_5 rfl hl (by decide) rfl (fun ls hl => ?_)
  refine lv_aload_n hx hb dX2_change_6 rfl (lv_at hl 0 rfl) ?_
  refine lv_ifnull hx hb dX2_change_7 ?_
  refine lv_iload_n hx hb dX2_change_10 rfl (lv_at hl 3 rfl) ?_
  -- c_isName_t
  refine pw_cSp (As := [.int (nI nm)]) (rest := []) ⟨hx, hb, hml, hown, hts⟩ (c_isName_t l D cI cP cR nm (by omega)) (va_cwS 1 hts gX2_change_X2_isName rfl rfl rfl (by decide +kernel) ⟨Nat.le_of_ble_eq_true rfl, Nat.le_of_ble_eq_true rfl⟩) hK rfl hl.1 rfl (Nat.le_of_ble_eq_true rfl) dX2_change_11 ⟨Nat.zero_le _, Nat.zero_le _⟩ ?_
  refine lv_if_ne (tgt := 19) hx hb dX2_change_14 (by decide) (fun c => ?_) (fun c => absurd c (by decide))
  refine lv_aload_n hx hb dX2_change_19 rfl (lv_at hl 0 rfl) ?_
  refine va_getN (D := D) (ci := 0) (v := .ref (ro i)) (C := RX0) (T := TX0) (N := 6) hx hb hts hi_X2_change_0 hown hK.1 hP 2 rfl rfl 0 (by decide) (va_Nw.use rfl hNW.2.1) (fun _ h9 => h9) rfl dX2_change_20 ?_
  refine lv_astore (lv' := [(4, .ref (ro i)), (3, .ref (po p)), (0, .ref h), (1, .int (nI p)), (2, .int (nI nm))]) hx hb dX2_change_23 hl (by decide) rfl (fun ls hl => ?_)
  refine lv_aload hx hb dX2_change_25 (lv_at hl 0 rfl) ?_
  refine lv_ifnonnull (tgt := 33) hx hb dX2_change_27 (by decide) ?_
  refine lv_aload_n hx hb dX2_change_33 rfl (lv_at hl 2 rfl) ?_
  refine lv_aload_n hx hb dX2_change_34 rfl (lv_at hl 1 rfl) ?_
  refine lv_aload hx hb dX2_change_35 (lv_at hl 0 rfl) ?_
  -- c_hf_r
  refine pw_cVp (As := [.ref (po p), .ref (ro i)]) (rest := []) (wc := [(h, .inr (2, [.ref qr, .ref qp, .int (nI md), .int (r0), .int (r1), .int (r2), .int (r3)])), (qp, .inl (cP, 4, .inr (.inr (.inr (.inr (fun i => some (po i))))))), (po p, .inr (0, [.ref (ro i), .int (pa), .int (ps), .int (nI j), .int (pt), .int (nI 0)])), (ro i, .inr (1, [.ref a, .int (nI n), .int (ch)])), (a, .inl (cI, 60, .inl (f)))]) ⟨hx, hb, hml, hown, hts⟩ (c_hf_r l D cI cP cR h qr qp md r0 r1 r2 r3 po ro p i a n ch f pa ps ph pt pm (by omega) (by omega) (by omega) ho hw j hj hd) (cwV 2 hts gX2_change_X2_handFault rfl rfl rfl (by decide +kernel) ⟨Nat.le_of_ble_eq_true rfl, Nat.le_of_ble_eq_true rfl⟩) hK hP hD [0, 1, 2, 3, 4] rfl (by decide) 0 rfl rfl rfl rfl hl.1 rfl (Nat.le_of_ble_eq_true rfl) dX2_change_37 ⟨Nat.zero_le _, Nat.zero_le _⟩ ?_
  refine lv_istore (lv' := [(5, .int (nI 0)), (4, .ref (ro i)), (3, .ref (po p)), (0, .ref h), (1, .int (nI p)), (2, .int (nI nm))]) hx hb dX2_change_40 hl (by decide) rfl (fun ls hl => ?_)
  refine lv_iload hx hb dX2_change_42 (lv_at hl 0 rfl) ?_
  refine lv_if_eq (tgt := 50) hx hb dX2_change_44 (by decide) (fun c => ?_) (fun c => absurd c (by decide))
  refine lv_aload_n hx hb dX2_change_50 rfl (lv_at hl 3 rfl) ?_
  refine lv_iload_n hx hb dX2_change_51 rfl (lv_at hl 5 rfl) ?_
  -- c_newThing
  refine pw_cVm (As := [.int (nI nm)]) (rest := []) (wc := [(h, .inr (2, [.ref qr, .ref qp, .int (nI md), .int (r0), .int (r1), .int (r2), .int (r3)]))]) (wr := [(qp, .inl (cP, 4, .inr (.inr (.inr (.inr (fun i => some (po i))))))), (po p, .inr (0, [.ref (ro i), .int (pa), .int (ps), .int (nI j), .int (pt), .int (nI 0)])), (ro i, .inr (1, [.ref a, .int (nI n), .int (ch)])), (a, .inl (cI, 60, .inl (f)))]) ⟨hx, hb, hml, hown, hts⟩ (c_newThing l D cI cP cR h qr qp md r0 r1 r2 r3 nm) (cwV 1 hts gX2_change_X2_newThing rfl rfl rfl (by decide +kernel) ⟨Nat.le_of_ble_eq_true rfl, Nat.le_of_ble_eq_true rfl⟩) hK hP hD hS hA [0] [1, 2, 3, 4] rfl rfl (by decide) (by decide) (by decide) 0 rfl rfl rfl rfl hl.1 rfl (Nat.le_of_ble_eq_true rfl) dX2_change_52 ⟨Nat.zero_le _, Nat.zero_le _⟩ (fun v1 w1 H locs hq hP hD hS => ?_)
  rcases hq with ⟨rfl, rfl⟩
  have hP : va_P D vwCl ([(qp, .inl (cP, 4, .inr (.inr (.inr (.inr (fun i => some (po i))))))), (po p, .inr (0, [.ref (ro i), .int (pa), .int (ps), .int (nI j), .int (pt), .int (nI 0)])), (ro i, .inr (1, [.ref a, .int (nI n), .int (ch)])), (a, .inl (cI, 60, .inl (f))), (h, .inr (2, [.ref qr, .ref qp, .int (nI (md + 1)), .int (r0), .int (r1), .int (r2), .int (r3)]))]) H := hP
  have hD : va_D A ([(qp, .inl (cP, 4, .inr (.inr (.inr (.inr (fun i => some (po i))))))), (po p, .inr (0, [.ref (ro i), .int (pa), .int (ps), .int (nI j), .int (pt), .int (nI 0)])), (ro i, .inr (1, [.ref a, .int (nI n), .int (ch)])), (a, .inl (cI, 60, .inl (f))), (h, .inr (2, [.ref qr, .ref qp, .int (nI (md + 1)), .int (r0), .int (r1), .int (r2), .int (r3)]))]) := hD
  refine W.eq (g2 := F0 m 55 ls [.int (nI ((md * 10) + nm))]) rfl ?_
  refine lv_istore (lv' := [(6, .int (nI ((md * 10) + nm))), (5, .int (nI 0)), (4, .ref (ro i)), (3, .ref (po p)), (0, .ref h), (1, .int (nI p)), (2, .int (nI nm))]) hx hb dX2_change_55 hl (by decide) rfl (fun ls hl => ?_)
  refine lv_aload_n hx hb dX2_change_57 rfl (lv_at hl 3 rfl) ?_
  refine lv_aload_n hx hb dX2_change_58 rfl (lv_at hl 3 rfl) ?_
  refine va_getN (D := D) (ci := 0) (v := .int (nI j)) (C := RX0) (T := TX0) (N := 6) hx hb hts hi_X2_change_0 hown hK.1 hP 1 rfl rfl 3 (by decide) (va_Nw.use rfl hNW.2.2.2.1) (fun _ h9 => h9) rfl dX2_change_59 ?_
  refine lv_iload hx hb dX2_change_62 (lv_at hl 0 rfl) ?_
  -- c_hold
  refine pw_cVm (As := [.int (nI j), .int (nI ((md * 10) + nm))]) (rest := []) (wc := [(po p, .inr (0, [.ref (ro i), .int (pa), .int (ps), .int (nI j), .int (pt), .int (nI 0)]))]) (wr := [(qp, .inl (cP, 4, .inr (.inr (.inr (.inr (fun i => some (po i))))))), (ro i, .inr (1, [.ref a, .int (nI n), .int (ch)])), (a, .inl (cI, 60, .inl (f))), (h, .inr (2, [.ref qr, .ref qp, .int (nI (md + 1)), .int (r0), .int (r1), .int (r2), .int (r3)]))]) ⟨hx, hb, hml, hown, hts⟩ (c_hold l D cI cP cR (po p) pa ps (nI j) pt (nI 0) (some (ro i)) (nI j) (nI ((md * 10) + nm))) (cwV 2 hts gX2_change_X0_hold rfl rfl rfl (by decide +kernel) ⟨Nat.le_of_ble_eq_true rfl, Nat.le_of_ble_eq_true rfl⟩) hK hP hD hS hA [1] [0, 2, 3, 4] rfl rfl (by decide) (by decide) (by decide) 0 rfl rfl rfl rfl hl.1 rfl (Nat.le_of_ble_eq_true rfl) dX2_change_64 ⟨Nat.zero_le _, Nat.zero_le _⟩ (fun v1 w1 H locs hq hP hD hS => ?_)
  rcases hq with ⟨rfl, rfl⟩
  have hP : va_P D vwCl ([(qp, .inl (cP, 4, .inr (.inr (.inr (.inr (fun i => some (po i))))))), (ro i, .inr (1, [.ref a, .int (nI n), .int (ch)])), (a, .inl (cI, 60, .inl (f))), (h, .inr (2, [.ref qr, .ref qp, .int (nI (md + 1)), .int (r0), .int (r1), .int (r2), .int (r3)])), (po p, .inr (0, [.ref (ro i), .int (pa), .int (ps), .int (nI j), .int (nI ((md * 10) + nm)), .int (nI 0)]))]) H := hP
  have hD : va_D A ([(qp, .inl (cP, 4, .inr (.inr (.inr (.inr (fun i => some (po i))))))), (ro i, .inr (1, [.ref a, .int (nI n), .int (ch)])), (a, .inl (cI, 60, .inl (f))), (h, .inr (2, [.ref qr, .ref qp, .int (nI (md + 1)), .int (r0), .int (r1), .int (r2), .int (r3)])), (po p, .inr (0, [.ref (ro i), .int (pa), .int (ps), .int (nI j), .int (nI ((md * 10) + nm)), .int (nI 0)]))]) := hD
  refine W.eq (g2 := F0 m 67 ls [.int (nI ((md * 10) + nm))]) rfl ?_
  refine lv_pop hx hb dX2_change_67 rfl ?_
  refine lv_aload hx hb dX2_change_68 (lv_at hl 2 rfl) ?_
  refine lv_aload_n hx hb dX2_change_70 rfl (lv_at hl 3 rfl) ?_
  refine va_getN (D := D) (ci := 0) (v := .int (nI j)) (C := RX0) (T := TX0) (N := 6) hx hb hts hi_X2_change_0 hown hK.1 hP 4 rfl rfl 3 (by decide) (va_Nw.use rfl hNW.2.2.2.1) (fun _ h9 => h9) rfl dX2_change_71 ?_
  refine lv_iload hx hb dX2_change_74 (lv_at hl 0 rfl) ?_
  -- c_layAt
  refine pw_cVm (As := [.int (nI j), .int (nI ((md * 10) + nm))]) (rest := []) (wc := [(ro i, .inr (1, [.ref a, .int (nI n), .int (ch)])), (a, .inl (cI, 60, .inl (f)))]) (wr := [(qp, .inl (cP, 4, .inr (.inr (.inr (.inr (fun i => some (po i))))))), (h, .inr (2, [.ref qr, .ref qp, .int (nI (md + 1)), .int (r0), .int (r1), .int (r2), .int (r3)])), (po p, .inr (0, [.ref (ro i), .int (pa), .int (ps), .int (nI j), .int (nI ((md * 10) + nm)), .int (nI 0)]))]) ⟨hx, hb, hml, hown, hts⟩ (c_layAt l D cI cP cR (ro i) a n ch f j (nI ((md * 10) + nm)) (by omega)) (cwV 2 hts gX2_change_X1_layAt rfl rfl rfl (by decide +kernel) ⟨Nat.le_of_ble_eq_true rfl, Nat.le_of_ble_eq_true rfl⟩) hK hP hD hS hA [1, 2] [0, 3, 4] rfl rfl (by decide) (by decide) (by decide) 0 rfl rfl rfl rfl hl.1 rfl (Nat.le_of_ble_eq_true rfl) dX2_change_76 ⟨Nat.zero_le _, Nat.zero_le _⟩ (fun v1 w1 H locs hq hP hD hS => ?_)
  rcases hq with ⟨rfl, rfl⟩
  have hP : va_P D vwCl ([(qp, .inl (cP, 4, .inr (.inr (.inr (.inr (fun i => some (po i))))))), (h, .inr (2, [.ref qr, .ref qp, .int (nI (md + 1)), .int (r0), .int (r1), .int (r2), .int (r3)])), (po p, .inr (0, [.ref (ro i), .int (pa), .int (ps), .int (nI j), .int (nI ((md * 10) + nm)), .int (nI 0)])), (ro i, .inr (1, [.ref a, .int (nI n), .int (ch)])), (a, .inl (cI, 60, .inl (upd f j (nI ((md * 10) + nm)))))]) H := hP
  have hD : va_D A ([(qp, .inl (cP, 4, .inr (.inr (.inr (.inr (fun i => some (po i))))))), (h, .inr (2, [.ref qr, .ref qp, .int (nI (md + 1)), .int (r0), .int (r1), .int (r2), .int (r3)])), (po p, .inr (0, [.ref (ro i), .int (pa), .int (ps), .int (nI j), .int (nI ((md * 10) + nm)), .int (nI 0)])), (ro i, .inr (1, [.ref a, .int (nI n), .int (ch)])), (a, .inl (cI, 60, .inl (upd f j (nI ((md * 10) + nm)))))]) := hD
  refine W.eq (g2 := F0 m 79 ls [.int (f j)]) rfl ?_
  have hP := hP.sub (ws' := [(h, .inr (2, [.ref qr, .ref qp, .int (nI (md + 1)), .int (r0), .int (r1), .int (r2), .int (r3)])), (qp, .inl (cP, 4, .inr (.inr (.inr (.inr (fun i => some (po i))))))), (po p, .inr (0, [.ref (ro i), .int (pa), .int (ps), .int (nI j), .int (nI ((md * 10) + nm)), .int (nI 0)])), (ro i, .inr (1, [.ref a, .int (nI n), .int (ch)])), (a, .inl (cI, 60, .inl (upd f j (nI ((md * 10) + nm)))))]) [1, 0, 2, 3, 4] rfl
  have hD := hD.sub (ws' := [(h, .inr (2, [.ref qr, .ref qp, .int (nI (md + 1)), .int (r0), .int (r1), .int (r2), .int (r3)])), (qp, .inl (cP, 4, .inr (.inr (.inr (.inr (fun i => some (po i))))))), (po p, .inr (0, [.ref (ro i), .int (pa), .int (ps), .int (nI j), .int (nI ((md * 10) + nm)), .int (nI 0)])), (ro i, .inr (1, [.ref a, .int (nI n), .int (ch)])), (a, .inl (cI, 60, .inl (upd f j (nI ((md * 10) + nm)))))]) [1, 0, 2, 3, 4] (by decide) rfl
  exact pw_iret hx hb hr (rfl) hlocks dX2_change_79 hS hP hD (⟨rfl, rfl⟩)
set_option maxHeartbeats 4000000 in
set_option maxRecDepth 100000 in
theorem k_remove_o (l : Launch) (D : va_G) (cI cP cR : ClassId) (h qr qp md : Nat) (r0 r1 r2 r3 : Int32) (po ro : Nat → Nat) (p i a n : Nat) (ch : Int32) (f : Nat → Int32) (pa ps ph pt pm : Int32) (hp4 : p < 4) (hi : i < 3) (hn : n ≤ 60) (ho : ¬ ps = ch) : pw_Mm l yX2_remove wsX2_remove ({ frames := 3, cells := 0, slots := 0, locals := 67 } : Room) D cI cP cR [.ref h, .int (nI p)] ([(h, .inr (2, [.ref qr, .ref qp, .int (nI md), .int (r0), .int (r1), .int (r2), .int (r3)])), (qp, .inl (cP, 4, .inr (.inr (.inr (.inr (fun i => some (po i))))))), (po p, .inr (0, [.ref (ro i), .int (pa), .int (ps), .int (ph), .int (pt), .int (pm)])), (ro i, .inr (1, [.ref a, .int (nI n), .int (ch)])), (a, .inl (cI, 60, .inl (f)))]) (fun v w => v = some (.int (-4)) ∧ w = [(h, .inr (2, [.ref qr, .ref qp, .int (nI md), .int (r0), .int (r1), .int (r2), .int (r3 + nI 1)])), (qp, .inl (cP, 4, .inr (.inr (.inr (.inr (fun i => some (po i))))))), (po p, .inr (0, [.ref (ro i), .int (pa), .int (ps), .int (ph), .int (pt), .int (pm)])), (ro i, .inr (1, [.ref a, .int (nI n), .int (ch)])), (a, .inl (cI, 60, .inl (f)))]) := by
  refine pw_ofm (cc := cX2_remove) (maxL := 6) (ret := (some .int)) (own := RX2) (by decide +kernel) rfl rfl (Nat.le_of_ble_eq_true rfl) ?_
  intro p_ e_ s m bel meth cd A hE hK hP hD hA hS ls hl
  obtain ⟨hx, hb, hr, hml, hown, hts, hlocks⟩ := hE
  have hNW := hK.2
  have hl : lv_has ls 6 [(0, .ref h), (1, .int (nI p))] := hl
  refine lv_aload_n hx hb dX2_remove_0 rfl (lv_at hl 0 rfl) ?_
  refine lv_iload_n hx hb dX2_remove_1 rfl (lv_at hl 1 rfl) ?_
  -- c_pegOf_i
  refine pw_cVp (As := [.int (nI p)]) (rest := []) (wc := [(h, .inr (2, [.ref qr, .ref qp, .int (nI md), .int (r0), .int (r1), .int (r2), .int (r3)])), (qp, .inl (cP, 4, .inr (.inr (.inr (.inr (fun i => some (po i)))))))]) ⟨hx, hb, hml, hown, hts⟩ (c_pegOf_i l D cI cP cR h qr qp md r0 r1 r2 r3 po p (by omega)) (cwV 1 hts gX2_remove_X2_pegOf rfl rfl rfl (by decide +kernel) ⟨Nat.le_of_ble_eq_true rfl, Nat.le_of_ble_eq_true rfl⟩) hK hP hD [0, 1] rfl (by decide) 0 rfl rfl rfl rfl hl.1 rfl (Nat.le_of_ble_eq_true rfl) dX2_remove_2 ⟨Nat.zero_le _, Nat.zero_le _⟩ ?_
  refine lv_astore_n (lv' := [(2, .ref (po p)), (0, .ref h), (1, .int (nI p))]) hx hb dX2_remove_5 rfl hl (by decide) rfl (fun ls hl => ?_)
  refine lv_aload_n hx hb dX2_remove_6 rfl (lv_at hl 0 rfl) ?_
  refine lv_ifnonnull (tgt := 12) hx hb dX2_remove_7 (by decide) ?_
  refine lv_aload_n hx hb dX2_remove_12 rfl (lv_at hl 0 rfl) ?_
  refine va_getN (D := D) (ci := 0) (v := .ref (ro i)) (C := RX0) (T := TX0) (N := 6) hx hb hts hi_X2_remove_0 hown hK.1 hP 2 rfl rfl 0 (by decide) (va_Nw.use rfl hNW.2.1) (fun _ h9 => h9) rfl dX2_remove_13 ?_
  refine lv_astore_n (lv' := [(3, .ref (ro i)), (2, .ref (po p)), (0, .ref h), (1, .int (nI p))]) hx hb dX2_remove_16 rfl hl (by decide) rfl (fun ls hl => ?_)
  refine lv_aload_n hx hb dX2_remove_17 rfl (lv_at hl 0 rfl) ?_
  refine lv_ifnonnull (tgt := 24) hx hb dX2_remove_18 (by decide) ?_
  refine lv_aload_n hx hb dX2_remove_24 rfl (lv_at hl 2 rfl) ?_
  refine lv_aload_n hx hb dX2_remove_25 rfl (lv_at hl 1 rfl) ?_
  refine lv_aload_n hx hb dX2_remove_26 rfl (lv_at hl 0 rfl) ?_
  -- c_hf_o
  refine pw_cVm (As := [.ref (po p), .ref (ro i)]) (rest := []) (wc := [(h, .inr (2, [.ref qr, .ref qp, .int (nI md), .int (r0), .int (r1), .int (r2), .int (r3)])), (qp, .inl (cP, 4, .inr (.inr (.inr (.inr (fun i => some (po i))))))), (po p, .inr (0, [.ref (ro i), .int (pa), .int (ps), .int (ph), .int (pt), .int (pm)])), (ro i, .inr (1, [.ref a, .int (nI n), .int (ch)])), (a, .inl (cI, 60, .inl (f)))]) (wr := []) ⟨hx, hb, hml, hown, hts⟩ (c_hf_o l D cI cP cR h qr qp md r0 r1 r2 r3 po ro p i a n ch f pa ps ph pt pm (by omega) (by omega) (by omega) ho) (cwV 2 hts gX2_remove_X2_handFault rfl rfl rfl (by decide +kernel) ⟨Nat.le_of_ble_eq_true rfl, Nat.le_of_ble_eq_true rfl⟩) hK hP hD hS hA [0, 1, 2, 3, 4] [] rfl rfl (by decide) (by decide) (by decide) 0 rfl rfl rfl rfl hl.1 rfl (Nat.le_of_ble_eq_true rfl) dX2_remove_27 ⟨Nat.zero_le _, Nat.zero_le _⟩ (fun v1 w1 H locs hq hP hD hS => ?_)
  rcases hq with ⟨rfl, rfl⟩
  have hP : va_P D vwCl ([(h, .inr (2, [.ref qr, .ref qp, .int (nI md), .int (r0), .int (r1), .int (r2), .int (r3 + nI 1)])), (qp, .inl (cP, 4, .inr (.inr (.inr (.inr (fun i => some (po i))))))), (po p, .inr (0, [.ref (ro i), .int (pa), .int (ps), .int (ph), .int (pt), .int (pm)])), (ro i, .inr (1, [.ref a, .int (nI n), .int (ch)])), (a, .inl (cI, 60, .inl (f)))]) H := hP
  have hD : va_D A ([(h, .inr (2, [.ref qr, .ref qp, .int (nI md), .int (r0), .int (r1), .int (r2), .int (r3 + nI 1)])), (qp, .inl (cP, 4, .inr (.inr (.inr (.inr (fun i => some (po i))))))), (po p, .inr (0, [.ref (ro i), .int (pa), .int (ps), .int (ph), .int (pt), .int (pm)])), (ro i, .inr (1, [.ref a, .int (nI n), .int (ch)])), (a, .inl (cI, 60, .inl (f)))]) := hD
  refine W.eq (g2 := F0 m 30 ls [.int (-4)]) rfl ?_
  refine lv_istore (lv' := [(4, .int (-4)), (3, .ref (ro i)), (2, .ref (po p)), (0, .ref h), (1, .int (nI p))]) hx hb dX2_remove_30 hl (by decide) rfl (fun ls hl => ?_)
  refine lv_iload hx hb dX2_remove_32 (lv_at hl 0 rfl) ?_
  refine lv_if_eq (tgt := 40) hx hb dX2_remove_34 (by decide) (fun c => absurd c (by decide)) (fun c => ?_)
  refine lv_iload hx hb dX2_remove_37 (lv_at hl 0 rfl) ?_
  exact pw_iret hx hb hr (rfl) hlocks dX2_remove_39 hS hP hD (⟨rfl, rfl⟩)
set_option maxHeartbeats 4000000 in
set_option maxRecDepth 100000 in
theorem k_remove_m (l : Launch) (D : va_G) (cI cP cR : ClassId) (h qr qp md : Nat) (r0 r1 r2 r3 : Int32) (po ro : Nat → Nat) (p i a n : Nat) (ch : Int32) (f : Nat → Int32) (pa ps ph pt pm : Int32) (hp4 : p < 4) (hi : i < 3) (hn : n ≤ 60) (ho : ps = ch) (hw : 0 ≤ pa ∧ pa ≤ nI n) : pw_Mp l yX2_remove wsX2_remove ({ frames := 3, cells := 0, slots := 0, locals := 67 } : Room) D cI cP cR [.ref h, .int (nI p)] ([(h, .inr (2, [.ref qr, .ref qp, .int (nI md), .int (r0), .int (r1), .int (r2), .int (r3)])), (qp, .inl (cP, 4, .inr (.inr (.inr (.inr (fun i => some (po i))))))), (po p, .inr (0, [.ref (ro i), .int (pa), .int (ps), .int (ph), .int (pt), .int (nI 1)])), (ro i, .inr (1, [.ref a, .int (nI n), .int (ch)])), (a, .inl (cI, 60, .inl (f)))]) (.int (-8)) := by
  refine pw_ofp (cc := cX2_remove) (maxL := 6) (ret := (some .int)) (own := RX2) (by decide +kernel) rfl rfl (Nat.le_of_ble_eq_true rfl) ?_
  intro p_ e_ s m bel meth cd hE hK hP hD ls hl
  obtain ⟨hx, hb, hr, hml, hown, hts, hlocks⟩ := hE
  have hNW := hK.2
  have hl : lv_has ls 6 [(0, .ref h), (1, .int (nI p))] := hl
  refine lv_aload_n hx hb dX2_remove_0 rfl (lv_at hl 0 rfl) ?_
  refine lv_iload_n hx hb dX2_remove_1 rfl (lv_at hl 1 rfl) ?_
  -- c_pegOf_i
  refine pw_cVp (As := [.int (nI p)]) (rest := []) (wc := [(h, .inr (2, [.ref qr, .ref qp, .int (nI md), .int (r0), .int (r1), .int (r2), .int (r3)])), (qp, .inl (cP, 4, .inr (.inr (.inr (.inr (fun i => some (po i)))))))]) ⟨hx, hb, hml, hown, hts⟩ (c_pegOf_i l D cI cP cR h qr qp md r0 r1 r2 r3 po p (by omega)) (cwV 1 hts gX2_remove_X2_pegOf rfl rfl rfl (by decide +kernel) ⟨Nat.le_of_ble_eq_true rfl, Nat.le_of_ble_eq_true rfl⟩) hK hP hD [0, 1] rfl (by decide) 0 rfl rfl rfl rfl hl.1 rfl (Nat.le_of_ble_eq_true rfl) dX2_remove_2 ⟨Nat.zero_le _, Nat.zero_le _⟩ ?_
  refine lv_astore_n (lv' := [(2, .ref (po p)), (0, .ref h), (1, .int (nI p))]) hx hb dX2_remove_5 rfl hl (by decide) rfl (fun ls hl => ?_)
  refine lv_aload_n hx hb dX2_remove_6 rfl (lv_at hl 0 rfl) ?_
  refine lv_ifnonnull (tgt := 12) hx hb dX2_remove_7 (by decide) ?_
  refine lv_aload_n hx hb dX2_remove_12 rfl (lv_at hl 0 rfl) ?_
  refine va_getN (D := D) (ci := 0) (v := .ref (ro i)) (C := RX0) (T := TX0) (N := 6) hx hb hts hi_X2_remove_0 hown hK.1 hP 2 rfl rfl 0 (by decide) (va_Nw.use rfl hNW.2.1) (fun _ h9 => h9) rfl dX2_remove_13 ?_
  refine lv_astore_n (lv' := [(3, .ref (ro i)), (2, .ref (po p)), (0, .ref h), (1, .int (nI p))]) hx hb dX2_remove_16 rfl hl (by decide) rfl (fun ls hl => ?_)
  refine lv_aload_n hx hb dX2_remove_17 rfl (lv_at hl 0 rfl) ?_
  refine lv_ifnonnull (tgt := 24) hx hb dX2_remove_18 (by decide) ?_
  refine lv_aload_n hx hb dX2_remove_24 rfl (lv_at hl 2 rfl) ?_
  refine lv_aload_n hx hb dX2_remove_25 rfl (lv_at hl 1 rfl) ?_
  refine lv_aload_n hx hb dX2_remove_26 rfl (lv_at hl 0 rfl) ?_
  -- c_hf_m
  refine pw_cVp (As := [.ref (po p), .ref (ro i)]) (rest := []) (wc := [(h, .inr (2, [.ref qr, .ref qp, .int (nI md), .int (r0), .int (r1), .int (r2), .int (r3)])), (qp, .inl (cP, 4, .inr (.inr (.inr (.inr (fun i => some (po i))))))), (po p, .inr (0, [.ref (ro i), .int (pa), .int (ps), .int (ph), .int (pt), .int (nI 1)])), (ro i, .inr (1, [.ref a, .int (nI n), .int (ch)])), (a, .inl (cI, 60, .inl (f)))]) ⟨hx, hb, hml, hown, hts⟩ (c_hf_m l D cI cP cR h qr qp md r0 r1 r2 r3 po ro p i a n ch f pa ps ph pt pm (by omega) (by omega) (by omega) ho hw) (cwV 2 hts gX2_remove_X2_handFault rfl rfl rfl (by decide +kernel) ⟨Nat.le_of_ble_eq_true rfl, Nat.le_of_ble_eq_true rfl⟩) hK hP hD [0, 1, 2, 3, 4] rfl (by decide) 0 rfl rfl rfl rfl hl.1 rfl (Nat.le_of_ble_eq_true rfl) dX2_remove_27 ⟨Nat.zero_le _, Nat.zero_le _⟩ ?_
  refine lv_istore (lv' := [(4, .int (-8)), (3, .ref (ro i)), (2, .ref (po p)), (0, .ref h), (1, .int (nI p))]) hx hb dX2_remove_30 hl (by decide) rfl (fun ls hl => ?_)
  refine lv_iload hx hb dX2_remove_32 (lv_at hl 0 rfl) ?_
  refine lv_if_eq (tgt := 40) hx hb dX2_remove_34 (by decide) (fun c => absurd c (by decide)) (fun c => ?_)
  refine lv_iload hx hb dX2_remove_37 (lv_at hl 0 rfl) ?_
  exact pw_piret hx hb hr (rfl) hlocks dX2_remove_39 (rfl)
set_option maxHeartbeats 4000000 in
set_option maxRecDepth 100000 in
theorem k_remove_s (l : Launch) (D : va_G) (cI cP cR : ClassId) (h qr qp md : Nat) (r0 r1 r2 r3 : Int32) (po ro : Nat → Nat) (p i a n : Nat) (ch : Int32) (f : Nat → Int32) (pa ps ph pt pm : Int32) (hp4 : p < 4) (hi : i < 3) (hn : n ≤ 60) (ho : ps = ch) (hw : 0 ≤ pa ∧ pa ≤ nI n) (hq : ¬ (0 ≤ ph ∧ ph < nI n)) : pw_Mm l yX2_remove wsX2_remove ({ frames := 3, cells := 0, slots := 0, locals := 67 } : Room) D cI cP cR [.ref h, .int (nI p)] ([(h, .inr (2, [.ref qr, .ref qp, .int (nI md), .int (r0), .int (r1), .int (r2), .int (r3)])), (qp, .inl (cP, 4, .inr (.inr (.inr (.inr (fun i => some (po i))))))), (po p, .inr (0, [.ref (ro i), .int (pa), .int (ps), .int (ph), .int (pt), .int (nI 0)])), (ro i, .inr (1, [.ref a, .int (nI n), .int (ch)])), (a, .inl (cI, 60, .inl (f)))]) (fun v w => v = some (.int (-7)) ∧ w = [(h, .inr (2, [.ref qr, .ref qp, .int (nI md), .int (r0), .int (r1), .int (r2 + nI 1), .int (r3)])), (qp, .inl (cP, 4, .inr (.inr (.inr (.inr (fun i => some (po i))))))), (po p, .inr (0, [.ref (ro i), .int (pa), .int (ps), .int (ph), .int (pt), .int (nI 0)])), (ro i, .inr (1, [.ref a, .int (nI n), .int (ch)])), (a, .inl (cI, 60, .inl (f)))]) := by
  refine pw_ofm (cc := cX2_remove) (maxL := 6) (ret := (some .int)) (own := RX2) (by decide +kernel) rfl rfl (Nat.le_of_ble_eq_true rfl) ?_
  intro p_ e_ s m bel meth cd A hE hK hP hD hA hS ls hl
  obtain ⟨hx, hb, hr, hml, hown, hts, hlocks⟩ := hE
  have hNW := hK.2
  have hl : lv_has ls 6 [(0, .ref h), (1, .int (nI p))] := hl
  refine lv_aload_n hx hb dX2_remove_0 rfl (lv_at hl 0 rfl) ?_
  refine lv_iload_n hx hb dX2_remove_1 rfl (lv_at hl 1 rfl) ?_
  -- c_pegOf_i
  refine pw_cVp (As := [.int (nI p)]) (rest := []) (wc := [(h, .inr (2, [.ref qr, .ref qp, .int (nI md), .int (r0), .int (r1), .int (r2), .int (r3)])), (qp, .inl (cP, 4, .inr (.inr (.inr (.inr (fun i => some (po i)))))))]) ⟨hx, hb, hml, hown, hts⟩ (c_pegOf_i l D cI cP cR h qr qp md r0 r1 r2 r3 po p (by omega)) (cwV 1 hts gX2_remove_X2_pegOf rfl rfl rfl (by decide +kernel) ⟨Nat.le_of_ble_eq_true rfl, Nat.le_of_ble_eq_true rfl⟩) hK hP hD [0, 1] rfl (by decide) 0 rfl rfl rfl rfl hl.1 rfl (Nat.le_of_ble_eq_true rfl) dX2_remove_2 ⟨Nat.zero_le _, Nat.zero_le _⟩ ?_
  refine lv_astore_n (lv' := [(2, .ref (po p)), (0, .ref h), (1, .int (nI p))]) hx hb dX2_remove_5 rfl hl (by decide) rfl (fun ls hl => ?_)
  refine lv_aload_n hx hb dX2_remove_6 rfl (lv_at hl 0 rfl) ?_
  refine lv_ifnonnull (tgt := 12) hx hb dX2_remove_7 (by decide) ?_
  refine lv_aload_n hx hb dX2_remove_12 rfl (lv_at hl 0 rfl) ?_
  refine va_getN (D := D) (ci := 0) (v := .ref (ro i)) (C := RX0) (T := TX0) (N := 6) hx hb hts hi_X2_remove_0 hown hK.1 hP 2 rfl rfl 0 (by decide) (va_Nw.use rfl hNW.2.1) (fun _ h9 => h9) rfl dX2_remove_13 ?_
  refine lv_astore_n (lv' := [(3, .ref (ro i)), (2, .ref (po p)), (0, .ref h), (1, .int (nI p))]) hx hb dX2_remove_16 rfl hl (by decide) rfl (fun ls hl => ?_)
  refine lv_aload_n hx hb dX2_remove_17 rfl (lv_at hl 0 rfl) ?_
  refine lv_ifnonnull (tgt := 24) hx hb dX2_remove_18 (by decide) ?_
  refine lv_aload_n hx hb dX2_remove_24 rfl (lv_at hl 2 rfl) ?_
  refine lv_aload_n hx hb dX2_remove_25 rfl (lv_at hl 1 rfl) ?_
  refine lv_aload_n hx hb dX2_remove_26 rfl (lv_at hl 0 rfl) ?_
  -- c_hf_s
  refine pw_cVm (As := [.ref (po p), .ref (ro i)]) (rest := []) (wc := [(h, .inr (2, [.ref qr, .ref qp, .int (nI md), .int (r0), .int (r1), .int (r2), .int (r3)])), (qp, .inl (cP, 4, .inr (.inr (.inr (.inr (fun i => some (po i))))))), (po p, .inr (0, [.ref (ro i), .int (pa), .int (ps), .int (ph), .int (pt), .int (nI 0)])), (ro i, .inr (1, [.ref a, .int (nI n), .int (ch)])), (a, .inl (cI, 60, .inl (f)))]) (wr := []) ⟨hx, hb, hml, hown, hts⟩ (c_hf_s l D cI cP cR h qr qp md r0 r1 r2 r3 po ro p i a n ch f pa ps ph pt pm (by omega) (by omega) (by omega) ho hw hq) (cwV 2 hts gX2_remove_X2_handFault rfl rfl rfl (by decide +kernel) ⟨Nat.le_of_ble_eq_true rfl, Nat.le_of_ble_eq_true rfl⟩) hK hP hD hS hA [0, 1, 2, 3, 4] [] rfl rfl (by decide) (by decide) (by decide) 0 rfl rfl rfl rfl hl.1 rfl (Nat.le_of_ble_eq_true rfl) dX2_remove_27 ⟨Nat.zero_le _, Nat.zero_le _⟩ (fun v1 w1 H locs hq hP hD hS => ?_)
  rcases hq with ⟨rfl, rfl⟩
  have hP : va_P D vwCl ([(h, .inr (2, [.ref qr, .ref qp, .int (nI md), .int (r0), .int (r1), .int (r2 + nI 1), .int (r3)])), (qp, .inl (cP, 4, .inr (.inr (.inr (.inr (fun i => some (po i))))))), (po p, .inr (0, [.ref (ro i), .int (pa), .int (ps), .int (ph), .int (pt), .int (nI 0)])), (ro i, .inr (1, [.ref a, .int (nI n), .int (ch)])), (a, .inl (cI, 60, .inl (f)))]) H := hP
  have hD : va_D A ([(h, .inr (2, [.ref qr, .ref qp, .int (nI md), .int (r0), .int (r1), .int (r2 + nI 1), .int (r3)])), (qp, .inl (cP, 4, .inr (.inr (.inr (.inr (fun i => some (po i))))))), (po p, .inr (0, [.ref (ro i), .int (pa), .int (ps), .int (ph), .int (pt), .int (nI 0)])), (ro i, .inr (1, [.ref a, .int (nI n), .int (ch)])), (a, .inl (cI, 60, .inl (f)))]) := hD
  refine W.eq (g2 := F0 m 30 ls [.int (-7)]) rfl ?_
  refine lv_istore (lv' := [(4, .int (-7)), (3, .ref (ro i)), (2, .ref (po p)), (0, .ref h), (1, .int (nI p))]) hx hb dX2_remove_30 hl (by decide) rfl (fun ls hl => ?_)
  refine lv_iload hx hb dX2_remove_32 (lv_at hl 0 rfl) ?_
  refine lv_if_eq (tgt := 40) hx hb dX2_remove_34 (by decide) (fun c => absurd c (by decide)) (fun c => ?_)
  refine lv_iload hx hb dX2_remove_37 (lv_at hl 0 rfl) ?_
  exact pw_iret hx hb hr (rfl) hlocks dX2_remove_39 hS hP hD (⟨rfl, rfl⟩)
set_option maxHeartbeats 4000000 in
set_option maxRecDepth 100000 in
theorem k_remove_l (l : Launch) (D : va_G) (cI cP cR : ClassId) (h qr qp md : Nat) (r0 r1 r2 r3 : Int32) (po ro : Nat → Nat) (p i a n : Nat) (ch : Int32) (f : Nat → Int32) (pa ps ph pt pm : Int32) (hp4 : p < 4) (hi : i < 3) (hn : n ≤ 60) (ho : ps = ch) (hw : 0 ≤ pa ∧ pa ≤ nI n) (j : Nat) (hj : j < n) (hd : ¬ f j = pt) : pw_Mp l yX2_remove wsX2_remove ({ frames := 3, cells := 0, slots := 0, locals := 67 } : Room) D cI cP cR [.ref h, .int (nI p)] ([(h, .inr (2, [.ref qr, .ref qp, .int (nI md), .int (r0), .int (r1), .int (r2), .int (r3)])), (qp, .inl (cP, 4, .inr (.inr (.inr (.inr (fun i => some (po i))))))), (po p, .inr (0, [.ref (ro i), .int (pa), .int (ps), .int (nI j), .int (pt), .int (nI 0)])), (ro i, .inr (1, [.ref a, .int (nI n), .int (ch)])), (a, .inl (cI, 60, .inl (f)))]) (.int (-8)) := by
  refine pw_ofp (cc := cX2_remove) (maxL := 6) (ret := (some .int)) (own := RX2) (by decide +kernel) rfl rfl (Nat.le_of_ble_eq_true rfl) ?_
  intro p_ e_ s m bel meth cd hE hK hP hD ls hl
  obtain ⟨hx, hb, hr, hml, hown, hts, hlocks⟩ := hE
  have hNW := hK.2
  have hl : lv_has ls 6 [(0, .ref h), (1, .int (nI p))] := hl
  refine lv_aload_n hx hb dX2_remove_0 rfl (lv_at hl 0 rfl) ?_
  refine lv_iload_n hx hb dX2_remove_1 rfl (lv_at hl 1 rfl) ?_
  -- c_pegOf_i
  refine pw_cVp (As := [.int (nI p)]) (rest := []) (wc := [(h, .inr (2, [.ref qr, .ref qp, .int (nI md), .int (r0), .int (r1), .int (r2), .int (r3)])), (qp, .inl (cP, 4, .inr (.inr (.inr (.inr (fun i => some (po i)))))))]) ⟨hx, hb, hml, hown, hts⟩ (c_pegOf_i l D cI cP cR h qr qp md r0 r1 r2 r3 po p (by omega)) (cwV 1 hts gX2_remove_X2_pegOf rfl rfl rfl (by decide +kernel) ⟨Nat.le_of_ble_eq_true rfl, Nat.le_of_ble_eq_true rfl⟩) hK hP hD [0, 1] rfl (by decide) 0 rfl rfl rfl rfl hl.1 rfl (Nat.le_of_ble_eq_true rfl) dX2_remove_2 ⟨Nat.zero_le _, Nat.zero_le _⟩ ?_
  refine lv_astore_n (lv' := [(2, .ref (po p)), (0, .ref h), (1, .int (nI p))]) hx hb dX2_remove_5 rfl hl (by decide) rfl (fun ls hl => ?_)
  refine lv_aload_n hx hb dX2_remove_6 rfl (lv_at hl 0 rfl) ?_
  refine lv_ifnonnull (tgt := 12) hx hb dX2_remove_7 (by decide) ?_
  refine lv_aload_n hx hb dX2_remove_12 rfl (lv_at hl 0 rfl) ?_
  refine va_getN (D := D) (ci := 0) (v := .ref (ro i)) (C := RX0) (T := TX0) (N := 6) hx hb hts hi_X2_remove_0 hown hK.1 hP 2 rfl rfl 0 (by decide) (va_Nw.use rfl hNW.2.1) (fun _ h9 => h9) rfl dX2_remove_13 ?_
  refine lv_astore_n (lv' := [(3, .ref (ro i)), (2, .ref (po p)), (0, .ref h), (1, .int (nI p))]) hx hb dX2_remove_16 rfl hl (by decide) rfl (fun ls hl => ?_)
  refine lv_aload_n hx hb dX2_remove_17 rfl (lv_at hl 0 rfl) ?_
  refine lv_ifnonnull (tgt := 24) hx hb dX2_remove_18 (by decide) ?_
  refine lv_aload_n hx hb dX2_remove_24 rfl (lv_at hl 2 rfl) ?_
  refine lv_aload_n hx hb dX2_remove_25 rfl (lv_at hl 1 rfl) ?_
  refine lv_aload_n hx hb dX2_remove_26 rfl (lv_at hl 0 rfl) ?_
  -- c_hf_l
  refine pw_cVp (As := [.ref (po p), .ref (ro i)]) (rest := []) (wc := [(h, .inr (2, [.ref qr, .ref qp, .int (nI md), .int (r0), .int (r1), .int (r2), .int (r3)])), (qp, .inl (cP, 4, .inr (.inr (.inr (.inr (fun i => some (po i))))))), (po p, .inr (0, [.ref (ro i), .int (pa), .int (ps), .int (nI j), .int (pt), .int (nI 0)])), (ro i, .inr (1, [.ref a, .int (nI n), .int (ch)])), (a, .inl (cI, 60, .inl (f)))]) ⟨hx, hb, hml, hown, hts⟩ (c_hf_l l D cI cP cR h qr qp md r0 r1 r2 r3 po ro p i a n ch f pa ps ph pt pm (by omega) (by omega) (by omega) ho hw j hj hd) (cwV 2 hts gX2_remove_X2_handFault rfl rfl rfl (by decide +kernel) ⟨Nat.le_of_ble_eq_true rfl, Nat.le_of_ble_eq_true rfl⟩) hK hP hD [0, 1, 2, 3, 4] rfl (by decide) 0 rfl rfl rfl rfl hl.1 rfl (Nat.le_of_ble_eq_true rfl) dX2_remove_27 ⟨Nat.zero_le _, Nat.zero_le _⟩ ?_
  refine lv_istore (lv' := [(4, .int (-8)), (3, .ref (ro i)), (2, .ref (po p)), (0, .ref h), (1, .int (nI p))]) hx hb dX2_remove_30 hl (by decide) rfl (fun ls hl => ?_)
  refine lv_iload hx hb dX2_remove_32 (lv_at hl 0 rfl) ?_
  refine lv_if_eq (tgt := 40) hx hb dX2_remove_34 (by decide) (fun c => absurd c (by decide)) (fun c => ?_)
  refine lv_iload hx hb dX2_remove_37 (lv_at hl 0 rfl) ?_
  exact pw_piret hx hb hr (rfl) hlocks dX2_remove_39 (rfl)
set_option maxHeartbeats 4000000 in
set_option maxRecDepth 100000 in
theorem k_remove (l : Launch) (D : va_G) (cI cP cR : ClassId) (h qr qp md : Nat) (r0 r1 r2 r3 : Int32) (po ro : Nat → Nat) (p i a n : Nat) (ch : Int32) (f : Nat → Int32) (pa ps ph pt pm : Int32) (hp4 : p < 4) (hi : i < 3) (hn : n ≤ 60) (ho : ps = ch) (hw : 0 ≤ pa ∧ pa ≤ nI n) (j : Nat) (hj : j < n) (hd : f j = pt) : pw_Mm l yX2_remove wsX2_remove ({ frames := 3, cells := 0, slots := 0, locals := 67 } : Room) D cI cP cR [.ref h, .int (nI p)] ([(h, .inr (2, [.ref qr, .ref qp, .int (nI md), .int (r0), .int (r1), .int (r2), .int (r3)])), (qp, .inl (cP, 4, .inr (.inr (.inr (.inr (fun i => some (po i))))))), (po p, .inr (0, [.ref (ro i), .int (pa), .int (ps), .int (nI j), .int (pt), .int (nI 0)])), (ro i, .inr (1, [.ref a, .int (nI n), .int (ch)])), (a, .inl (cI, 60, .inl (f)))]) (fun v w => v = some (.int (f j)) ∧ w = [(h, .inr (2, [.ref qr, .ref qp, .int (nI md), .int (r0), .int (r1), .int (r2), .int (r3)])), (qp, .inl (cP, 4, .inr (.inr (.inr (.inr (fun i => some (po i))))))), (po p, .inr (0, [.ref (ro i), .int (nI j), .int (ch + nI 1), .int (-1), .int (pt), .int (nI 0)])), (ro i, .inr (1, [.ref a, .int (nI (n - 1)), .int (ch + nI 1)])), (a, .inl (cI, 60, .inl (clsF f j n)))]) := by
  refine pw_ofm (cc := cX2_remove) (maxL := 6) (ret := (some .int)) (own := RX2) (by decide +kernel) rfl rfl (Nat.le_of_ble_eq_true rfl) ?_
  intro p_ e_ s m bel meth cd A hE hK hP hD hA hS ls hl
  obtain ⟨hx, hb, hr, hml, hown, hts, hlocks⟩ := hE
  have hNW := hK.2
  have hl : lv_has ls 6 [(0, .ref h), (1, .int (nI p))] := hl
  refine lv_aload_n hx hb dX2_remove_0 rfl (lv_at hl 0 rfl) ?_
  refine lv_iload_n hx hb dX2_remove_1 rfl (lv_at hl 1 rfl) ?_
  -- c_pegOf_i
  refine pw_cVp (As := [.int (nI p)]) (rest := []) (wc := [(h, .inr (2, [.ref qr, .ref qp, .int (nI md), .int (r0), .int (r1), .int (r2), .int (r3)])), (qp, .inl (cP, 4, .inr (.inr (.inr (.inr (fun i => some (po i)))))))]) ⟨hx, hb, hml, hown, hts⟩ (c_pegOf_i l D cI cP cR h qr qp md r0 r1 r2 r3 po p (by omega)) (cwV 1 hts gX2_remove_X2_pegOf rfl rfl rfl (by decide +kernel) ⟨Nat.le_of_ble_eq_true rfl, Nat.le_of_ble_eq_true rfl⟩) hK hP hD [0, 1] rfl (by decide) 0 rfl rfl rfl rfl hl.1 rfl (Nat.le_of_ble_eq_true rfl) dX2_remove_2 ⟨Nat.zero_le _, Nat.zero_le _⟩ ?_
  refine lv_astore_n (lv' := [(2, .ref (po p)), (0, .ref h), (1, .int (nI p))]) hx hb dX2_remove_5 rfl hl (by decide) rfl (fun ls hl => ?_)
  refine lv_aload_n hx hb dX2_remove_6 rfl (lv_at hl 0 rfl) ?_
  refine lv_ifnonnull (tgt := 12) hx hb dX2_remove_7 (by decide) ?_
  refine lv_aload_n hx hb dX2_remove_12 rfl (lv_at hl 0 rfl) ?_
  refine va_getN (D := D) (ci := 0) (v := .ref (ro i)) (C := RX0) (T := TX0) (N := 6) hx hb hts hi_X2_remove_0 hown hK.1 hP 2 rfl rfl 0 (by decide) (va_Nw.use rfl hNW.2.1) (fun _ h9 => h9) rfl dX2_remove_13 ?_
  refine lv_astore_n (lv' := [(3, .ref (ro i)), (2, .ref (po p)), (0, .ref h), (1, .int (nI p))]) hx hb dX2_remove_16 rfl hl (by decide) rfl (fun ls hl => ?_)
  refine lv_aload_n hx hb dX2_remove_17 rfl (lv_at hl 0 rfl) ?_
  refine lv_ifnonnull (tgt := 24) hx hb dX2_remove_18 (by decide) ?_
  refine lv_aload_n hx hb dX2_remove_24 rfl (lv_at hl 2 rfl) ?_
  refine lv_aload_n hx hb dX2_remove_25 rfl (lv_at hl 1 rfl) ?_
  refine lv_aload_n hx hb dX2_remove_26 rfl (lv_at hl 0 rfl) ?_
  -- c_hf_r
  refine pw_cVp (As := [.ref (po p), .ref (ro i)]) (rest := []) (wc := [(h, .inr (2, [.ref qr, .ref qp, .int (nI md), .int (r0), .int (r1), .int (r2), .int (r3)])), (qp, .inl (cP, 4, .inr (.inr (.inr (.inr (fun i => some (po i))))))), (po p, .inr (0, [.ref (ro i), .int (pa), .int (ps), .int (nI j), .int (pt), .int (nI 0)])), (ro i, .inr (1, [.ref a, .int (nI n), .int (ch)])), (a, .inl (cI, 60, .inl (f)))]) ⟨hx, hb, hml, hown, hts⟩ (c_hf_r l D cI cP cR h qr qp md r0 r1 r2 r3 po ro p i a n ch f pa ps ph pt pm (by omega) (by omega) (by omega) ho hw j hj hd) (cwV 2 hts gX2_remove_X2_handFault rfl rfl rfl (by decide +kernel) ⟨Nat.le_of_ble_eq_true rfl, Nat.le_of_ble_eq_true rfl⟩) hK hP hD [0, 1, 2, 3, 4] rfl (by decide) 0 rfl rfl rfl rfl hl.1 rfl (Nat.le_of_ble_eq_true rfl) dX2_remove_27 ⟨Nat.zero_le _, Nat.zero_le _⟩ ?_
  refine lv_istore (lv' := [(4, .int (nI 0)), (3, .ref (ro i)), (2, .ref (po p)), (0, .ref h), (1, .int (nI p))]) hx hb dX2_remove_30 hl (by decide) rfl (fun ls hl => ?_)
  refine lv_iload hx hb dX2_remove_32 (lv_at hl 0 rfl) ?_
  refine lv_if_eq (tgt := 40) hx hb dX2_remove_34 (by decide) (fun c => ?_) (fun c => absurd c (by decide))
  refine lv_aload_n hx hb dX2_remove_40 rfl (lv_at hl 1 rfl) ?_
  refine lv_aload_n hx hb dX2_remove_41 rfl (lv_at hl 2 rfl) ?_
  refine va_getN (D := D) (ci := 0) (v := .int (nI j)) (C := RX0) (T := TX0) (N := 6) hx hb hts hi_X2_remove_0 hown hK.1 hP 2 rfl rfl 3 (by decide) (va_Nw.use rfl hNW.2.2.2.1) (fun _ h9 => h9) rfl dX2_remove_42 ?_
  -- c_takeAt
  refine pw_cVm (As := [.int (nI j)]) (rest := []) (wc := [(ro i, .inr (1, [.ref a, .int (nI n), .int (ch)])), (a, .inl (cI, 60, .inl (f)))]) (wr := [(h, .inr (2, [.ref qr, .ref qp, .int (nI md), .int (r0), .int (r1), .int (r2), .int (r3)])), (qp, .inl (cP, 4, .inr (.inr (.inr (.inr (fun i => some (po i))))))), (po p, .inr (0, [.ref (ro i), .int (pa), .int (ps), .int (nI j), .int (pt), .int (nI 0)]))]) ⟨hx, hb, hml, hown, hts⟩ (c_takeAt l D cI cP cR (ro i) a n ch f j (by omega) (by omega)) (cwV 1 hts gX2_remove_X1_takeAt rfl rfl rfl (by decide +kernel) ⟨Nat.le_of_ble_eq_true rfl, Nat.le_of_ble_eq_true rfl⟩) hK hP hD hS hA [3, 4] [0, 1, 2] rfl rfl (by decide) (by decide) (by decide) 0 rfl rfl rfl rfl hl.1 rfl (Nat.le_of_ble_eq_true rfl) dX2_remove_45 ⟨Nat.zero_le _, Nat.zero_le _⟩ (fun v1 w1 H locs hq hP hD hS => ?_)
  rcases hq with ⟨rfl, rfl⟩
  have hP : va_P D vwCl ([(h, .inr (2, [.ref qr, .ref qp, .int (nI md), .int (r0), .int (r1), .int (r2), .int (r3)])), (qp, .inl (cP, 4, .inr (.inr (.inr (.inr (fun i => some (po i))))))), (po p, .inr (0, [.ref (ro i), .int (pa), .int (ps), .int (nI j), .int (pt), .int (nI 0)])), (ro i, .inr (1, [.ref a, .int (nI (n - 1)), .int (ch + nI 1)])), (a, .inl (cI, 60, .inl (clsF f j n)))]) H := hP
  have hD : va_D A ([(h, .inr (2, [.ref qr, .ref qp, .int (nI md), .int (r0), .int (r1), .int (r2), .int (r3)])), (qp, .inl (cP, 4, .inr (.inr (.inr (.inr (fun i => some (po i))))))), (po p, .inr (0, [.ref (ro i), .int (pa), .int (ps), .int (nI j), .int (pt), .int (nI 0)])), (ro i, .inr (1, [.ref a, .int (nI (n - 1)), .int (ch + nI 1)])), (a, .inl (cI, 60, .inl (clsF f j n)))]) := hD
  refine W.eq (g2 := F0 m 48 ls [.int (f j)]) rfl ?_
  refine lv_istore (lv' := [(5, .int (f j)), (4, .int (nI 0)), (3, .ref (ro i)), (2, .ref (po p)), (0, .ref h), (1, .int (nI p))]) hx hb dX2_remove_48 hl (by decide) rfl (fun ls hl => ?_)
  refine lv_aload_n hx hb dX2_remove_50 rfl (lv_at hl 3 rfl) ?_
  refine lv_aload_n hx hb dX2_remove_51 rfl (lv_at hl 2 rfl) ?_
  refine lv_aload_n hx hb dX2_remove_52 rfl (lv_at hl 3 rfl) ?_
  refine va_getN (D := D) (ci := 0) (v := .int (nI j)) (C := RX0) (T := TX0) (N := 6) hx hb hts hi_X2_remove_0 hown hK.1 hP 2 rfl rfl 3 (by decide) (va_Nw.use rfl hNW.2.2.2.1) (fun _ h9 => h9) rfl dX2_remove_53 ?_
  -- c_standIn
  refine pw_cVm (As := [.ref (ro i), .int (nI j)]) (rest := []) (wc := [(po p, .inr (0, [.ref (ro i), .int (pa), .int (ps), .int (nI j), .int (pt), .int (nI 0)])), (ro i, .inr (1, [.ref a, .int (nI (n - 1)), .int (ch + nI 1)])), (a, .inl (cI, 60, .inl (clsF f j n)))]) (wr := [(h, .inr (2, [.ref qr, .ref qp, .int (nI md), .int (r0), .int (r1), .int (r2), .int (r3)])), (qp, .inl (cP, 4, .inr (.inr (.inr (.inr (fun i => some (po i)))))))]) ⟨hx, hb, hml, hown, hts⟩ (c_standIn l D cI cP cR (po p) pa ps (nI j) pt (nI 0) (.ref (ro i)) (ro i) a (n - 1) (ch + nI 1) (clsF f j n) (nI j)) (cwV 2 hts gX2_remove_X0_standIn rfl rfl rfl (by decide +kernel) ⟨Nat.le_of_ble_eq_true rfl, Nat.le_of_ble_eq_true rfl⟩) hK hP hD hS hA [2, 3, 4] [0, 1] rfl rfl (by decide) (by decide) (by decide) 0 rfl rfl rfl rfl hl.1 rfl (Nat.le_of_ble_eq_true rfl) dX2_remove_56 ⟨Nat.zero_le _, Nat.zero_le _⟩ (fun v1 w1 H locs hq hP hD hS => ?_)
  rcases hq with ⟨rfl, rfl⟩
  have hP : va_P D vwCl ([(h, .inr (2, [.ref qr, .ref qp, .int (nI md), .int (r0), .int (r1), .int (r2), .int (r3)])), (qp, .inl (cP, 4, .inr (.inr (.inr (.inr (fun i => some (po i))))))), (po p, .inr (0, [.ref (ro i), .int (nI j), .int (ch + nI 1), .int (-1), .int (pt), .int (nI 0)])), (ro i, .inr (1, [.ref a, .int (nI (n - 1)), .int (ch + nI 1)])), (a, .inl (cI, 60, .inl (clsF f j n)))]) H := hP
  have hD : va_D A ([(h, .inr (2, [.ref qr, .ref qp, .int (nI md), .int (r0), .int (r1), .int (r2), .int (r3)])), (qp, .inl (cP, 4, .inr (.inr (.inr (.inr (fun i => some (po i))))))), (po p, .inr (0, [.ref (ro i), .int (nI j), .int (ch + nI 1), .int (-1), .int (pt), .int (nI 0)])), (ro i, .inr (1, [.ref a, .int (nI (n - 1)), .int (ch + nI 1)])), (a, .inl (cI, 60, .inl (clsF f j n)))]) := hD
  refine W.eq (g2 := F0 m 59 ls []) rfl ?_
  refine lv_iload hx hb dX2_remove_59 (lv_at hl 0 rfl) ?_
  have hP := hP.sub (ws' := [(h, .inr (2, [.ref qr, .ref qp, .int (nI md), .int (r0), .int (r1), .int (r2), .int (r3)])), (qp, .inl (cP, 4, .inr (.inr (.inr (.inr (fun i => some (po i))))))), (po p, .inr (0, [.ref (ro i), .int (nI j), .int (ch + nI 1), .int (-1), .int (pt), .int (nI 0)])), (ro i, .inr (1, [.ref a, .int (nI (n - 1)), .int (ch + nI 1)])), (a, .inl (cI, 60, .inl (clsF f j n)))]) [0, 1, 2, 3, 4] rfl
  have hD := hD.sub (ws' := [(h, .inr (2, [.ref qr, .ref qp, .int (nI md), .int (r0), .int (r1), .int (r2), .int (r3)])), (qp, .inl (cP, 4, .inr (.inr (.inr (.inr (fun i => some (po i))))))), (po p, .inr (0, [.ref (ro i), .int (nI j), .int (ch + nI 1), .int (-1), .int (pt), .int (nI 0)])), (ro i, .inr (1, [.ref a, .int (nI (n - 1)), .int (ch + nI 1)])), (a, .inl (cI, 60, .inl (clsF f j n)))]) [0, 1, 2, 3, 4] (by decide) rfl
  exact pw_iret hx hb hr (rfl) hlocks dX2_remove_61 hS hP hD (⟨rfl, rfl⟩)
set_option maxHeartbeats 4000000 in
set_option maxRecDepth 100000 in
theorem k_add_f (l : Launch) (D : va_G) (cI cP cR : ClassId) (h qr qp md : Nat) (r0 r1 r2 r3 : Int32) (po ro : Nat → Nat) (p i a n : Nat) (ch : Int32) (f : Nat → Int32) (pa ps ph pt pm : Int32) (hp4 : p < 4) (hi : i < 3) (hn : n ≤ 60) (nm : Nat) (hnm : nm < 10) (hf : n = 60) : pw_Mp l yX2_add wsX2_add ({ frames := 2, cells := 0, slots := 0, locals := 45 } : Room) D cI cP cR [.ref h, .int (nI p), .int (nI nm)] ([(h, .inr (2, [.ref qr, .ref qp, .int (nI md), .int (r0), .int (r1), .int (r2), .int (r3)])), (qp, .inl (cP, 4, .inr (.inr (.inr (.inr (fun i => some (po i))))))), (po p, .inr (0, [.ref (ro i), .int (pa), .int (ps), .int (ph), .int (pt), .int (pm)])), (ro i, .inr (1, [.ref a, .int (nI n), .int (ch)])), (a, .inl (cI, 60, .inl (f)))]) (.int (-3)) := by
  refine pw_ofp (cc := cX2_add) (maxL := 5) (ret := (some .int)) (own := RX2) (by decide +kernel) rfl rfl (Nat.le_of_ble_eq_true rfl) ?_
  intro p_ e_ s m bel meth cd hE hK hP hD ls hl
  obtain ⟨hx, hb, hr, hml, hown, hts, hlocks⟩ := hE
  have hNW := hK.2
  have hl : lv_has ls 5 [(0, .ref h), (1, .int (nI p)), (2, .int (nI nm))] := hl
  refine lv_aload_n hx hb dX2_add_0 rfl (lv_at hl 0 rfl) ?_
  refine lv_iload_n hx hb dX2_add_1 rfl (lv_at hl 1 rfl) ?_
  -- c_pegOf_i
  refine pw_cVp (As := [.int (nI p)]) (rest := []) (wc := [(h, .inr (2, [.ref qr, .ref qp, .int (nI md), .int (r0), .int (r1), .int (r2), .int (r3)])), (qp, .inl (cP, 4, .inr (.inr (.inr (.inr (fun i => some (po i)))))))]) ⟨hx, hb, hml, hown, hts⟩ (c_pegOf_i l D cI cP cR h qr qp md r0 r1 r2 r3 po p (by omega)) (cwV 1 hts gX2_add_X2_pegOf rfl rfl rfl (by decide +kernel) ⟨Nat.le_of_ble_eq_true rfl, Nat.le_of_ble_eq_true rfl⟩) hK hP hD [0, 1] rfl (by decide) 0 rfl rfl rfl rfl hl.1 rfl (Nat.le_of_ble_eq_true rfl) dX2_add_2 ⟨Nat.zero_le _, Nat.zero_le _⟩ ?_
  refine lv_astore_n (lv' := [(3, .ref (po p)), (0, .ref h), (1, .int (nI p)), (2, .int (nI nm))]) hx hb dX2_add_5 rfl hl (by decide) rfl (fun ls hl => ?_)
  refine lv_aload_n hx hb dX2_add_6 rfl (lv_at hl 0 rfl) ?_
  refine lv_ifnull hx hb dX2_add_7 ?_
  refine lv_iload_n hx hb dX2_add_10 rfl (lv_at hl 3 rfl) ?_
  -- c_isName_t
  refine pw_cSp (As := [.int (nI nm)]) (rest := []) ⟨hx, hb, hml, hown, hts⟩ (c_isName_t l D cI cP cR nm (by omega)) (va_cwS 1 hts gX2_add_X2_isName rfl rfl rfl (by decide +kernel) ⟨Nat.le_of_ble_eq_true rfl, Nat.le_of_ble_eq_true rfl⟩) hK rfl hl.1 rfl (Nat.le_of_ble_eq_true rfl) dX2_add_11 ⟨Nat.zero_le _, Nat.zero_le _⟩ ?_
  refine lv_if_ne (tgt := 19) hx hb dX2_add_14 (by decide) (fun c => ?_) (fun c => absurd c (by decide))
  refine lv_aload_n hx hb dX2_add_19 rfl (lv_at hl 0 rfl) ?_
  refine va_getN (D := D) (ci := 0) (v := .ref (ro i)) (C := RX0) (T := TX0) (N := 6) hx hb hts hi_X2_add_0 hown hK.1 hP 2 rfl rfl 0 (by decide) (va_Nw.use rfl hNW.2.1) (fun _ h9 => h9) rfl dX2_add_20 ?_
  refine lv_astore (lv' := [(4, .ref (ro i)), (3, .ref (po p)), (0, .ref h), (1, .int (nI p)), (2, .int (nI nm))]) hx hb dX2_add_23 hl (by decide) rfl (fun ls hl => ?_)
  refine lv_aload hx hb dX2_add_25 (lv_at hl 0 rfl) ?_
  refine lv_ifnonnull (tgt := 33) hx hb dX2_add_27 (by decide) ?_
  refine lv_aload hx hb dX2_add_33 (lv_at hl 0 rfl) ?_
  refine lv_iconst (v := nI 1) hx hb dX2_add_35 (by decide) ?_
  -- c_hasRoomFor_f
  refine pw_cVp (As := [.int (nI 1)]) (rest := []) (wc := [(ro i, .inr (1, [.ref a, .int (nI n), .int (ch)])), (a, .inl (cI, 60, .inl (f)))]) ⟨hx, hb, hml, hown, hts⟩ (c_hasRoomFor_f l D cI cP cR (ro i) a n ch f 1 (by omega) (by omega) (by omega)) (cwV 1 hts gX2_add_X1_hasRoomFor rfl rfl rfl (by decide +kernel) ⟨Nat.le_of_ble_eq_true rfl, Nat.le_of_ble_eq_true rfl⟩) hK hP hD [3, 4] rfl (by decide) 0 rfl rfl rfl rfl hl.1 rfl (Nat.le_of_ble_eq_true rfl) dX2_add_36 ⟨Nat.zero_le _, Nat.zero_le _⟩ ?_
  refine lv_if_ne (tgt := 45) hx hb dX2_add_39 (by decide) (fun c => absurd c (by decide)) (fun c => ?_)
  refine lv_bipush (v := -3) hx hb dX2_add_42 (by decide) ?_
  exact pw_piret hx hb hr (rfl) hlocks dX2_add_44 (rfl)
set_option maxHeartbeats 4000000 in
set_option maxRecDepth 100000 in
theorem k_add_o (l : Launch) (D : va_G) (cI cP cR : ClassId) (h qr qp md : Nat) (r0 r1 r2 r3 : Int32) (po ro : Nat → Nat) (p i a n : Nat) (ch : Int32) (f : Nat → Int32) (pa ps ph pt pm : Int32) (hp4 : p < 4) (hi : i < 3) (hn : n ≤ 60) (nm : Nat) (hnm : nm < 10) (hf : n < 60) (ho : ¬ ps = ch) : pw_Mm l yX2_add wsX2_add ({ frames := 2, cells := 0, slots := 0, locals := 45 } : Room) D cI cP cR [.ref h, .int (nI p), .int (nI nm)] ([(h, .inr (2, [.ref qr, .ref qp, .int (nI md), .int (r0), .int (r1), .int (r2), .int (r3)])), (qp, .inl (cP, 4, .inr (.inr (.inr (.inr (fun i => some (po i))))))), (po p, .inr (0, [.ref (ro i), .int (pa), .int (ps), .int (ph), .int (pt), .int (pm)])), (ro i, .inr (1, [.ref a, .int (nI n), .int (ch)])), (a, .inl (cI, 60, .inl (f)))]) (fun v w => v = some (.int (-4)) ∧ w = [(h, .inr (2, [.ref qr, .ref qp, .int (nI md), .int (r0), .int (r1), .int (r2), .int (r3 + nI 1)])), (qp, .inl (cP, 4, .inr (.inr (.inr (.inr (fun i => some (po i))))))), (po p, .inr (0, [.ref (ro i), .int (pa), .int (ps), .int (ph), .int (pt), .int (pm)])), (ro i, .inr (1, [.ref a, .int (nI n), .int (ch)])), (a, .inl (cI, 60, .inl (f)))]) := by
  refine pw_ofm (cc := cX2_add) (maxL := 5) (ret := (some .int)) (own := RX2) (by decide +kernel) rfl rfl (Nat.le_of_ble_eq_true rfl) ?_
  intro p_ e_ s m bel meth cd A hE hK hP hD hA hS ls hl
  obtain ⟨hx, hb, hr, hml, hown, hts, hlocks⟩ := hE
  have hNW := hK.2
  have hl : lv_has ls 5 [(0, .ref h), (1, .int (nI p)), (2, .int (nI nm))] := hl
  refine lv_aload_n hx hb dX2_add_0 rfl (lv_at hl 0 rfl) ?_
  refine lv_iload_n hx hb dX2_add_1 rfl (lv_at hl 1 rfl) ?_
  -- c_pegOf_i
  refine pw_cVp (As := [.int (nI p)]) (rest := []) (wc := [(h, .inr (2, [.ref qr, .ref qp, .int (nI md), .int (r0), .int (r1), .int (r2), .int (r3)])), (qp, .inl (cP, 4, .inr (.inr (.inr (.inr (fun i => some (po i)))))))]) ⟨hx, hb, hml, hown, hts⟩ (c_pegOf_i l D cI cP cR h qr qp md r0 r1 r2 r3 po p (by omega)) (cwV 1 hts gX2_add_X2_pegOf rfl rfl rfl (by decide +kernel) ⟨Nat.le_of_ble_eq_true rfl, Nat.le_of_ble_eq_true rfl⟩) hK hP hD [0, 1] rfl (by decide) 0 rfl rfl rfl rfl hl.1 rfl (Nat.le_of_ble_eq_true rfl) dX2_add_2 ⟨Nat.zero_le _, Nat.zero_le _⟩ ?_
  refine lv_astore_n (lv' := [(3, .ref (po p)), (0, .ref h), (1, .int (nI p)), (2, .int (nI nm))]) hx hb dX2_add_5 rfl hl (by decide) rfl (fun ls hl => ?_)
  refine lv_aload_n hx hb dX2_add_6 rfl (lv_at hl 0 rfl) ?_
  refine lv_ifnull hx hb dX2_add_7 ?_
  refine lv_iload_n hx hb dX2_add_10 rfl (lv_at hl 3 rfl) ?_
  -- c_isName_t
  refine pw_cSp (As := [.int (nI nm)]) (rest := []) ⟨hx, hb, hml, hown, hts⟩ (c_isName_t l D cI cP cR nm (by omega)) (va_cwS 1 hts gX2_add_X2_isName rfl rfl rfl (by decide +kernel) ⟨Nat.le_of_ble_eq_true rfl, Nat.le_of_ble_eq_true rfl⟩) hK rfl hl.1 rfl (Nat.le_of_ble_eq_true rfl) dX2_add_11 ⟨Nat.zero_le _, Nat.zero_le _⟩ ?_
  refine lv_if_ne (tgt := 19) hx hb dX2_add_14 (by decide) (fun c => ?_) (fun c => absurd c (by decide))
  refine lv_aload_n hx hb dX2_add_19 rfl (lv_at hl 0 rfl) ?_
  refine va_getN (D := D) (ci := 0) (v := .ref (ro i)) (C := RX0) (T := TX0) (N := 6) hx hb hts hi_X2_add_0 hown hK.1 hP 2 rfl rfl 0 (by decide) (va_Nw.use rfl hNW.2.1) (fun _ h9 => h9) rfl dX2_add_20 ?_
  refine lv_astore (lv' := [(4, .ref (ro i)), (3, .ref (po p)), (0, .ref h), (1, .int (nI p)), (2, .int (nI nm))]) hx hb dX2_add_23 hl (by decide) rfl (fun ls hl => ?_)
  refine lv_aload hx hb dX2_add_25 (lv_at hl 0 rfl) ?_
  refine lv_ifnonnull (tgt := 33) hx hb dX2_add_27 (by decide) ?_
  refine lv_aload hx hb dX2_add_33 (lv_at hl 0 rfl) ?_
  refine lv_iconst (v := nI 1) hx hb dX2_add_35 (by decide) ?_
  -- c_hasRoomFor_t
  refine pw_cVp (As := [.int (nI 1)]) (rest := []) (wc := [(ro i, .inr (1, [.ref a, .int (nI n), .int (ch)])), (a, .inl (cI, 60, .inl (f)))]) ⟨hx, hb, hml, hown, hts⟩ (c_hasRoomFor_t l D cI cP cR (ro i) a n ch f 1 (by omega)) (cwV 1 hts gX2_add_X1_hasRoomFor rfl rfl rfl (by decide +kernel) ⟨Nat.le_of_ble_eq_true rfl, Nat.le_of_ble_eq_true rfl⟩) hK hP hD [3, 4] rfl (by decide) 0 rfl rfl rfl rfl hl.1 rfl (Nat.le_of_ble_eq_true rfl) dX2_add_36 ⟨Nat.zero_le _, Nat.zero_le _⟩ ?_
  refine lv_if_ne (tgt := 45) hx hb dX2_add_39 (by decide) (fun c => ?_) (fun c => absurd c (by decide))
  refine lv_aload_n hx hb dX2_add_45 rfl (lv_at hl 1 rfl) ?_
  -- c_isOld_o
  refine pw_cVp (As := []) (rest := []) (wc := [(po p, .inr (0, [.ref (ro i), .int (pa), .int (ps), .int (ph), .int (pt), .int (pm)])), (ro i, .inr (1, [.ref a, .int (nI n), .int (ch)])), (a, .inl (cI, 60, .inl (f)))]) ⟨hx, hb, hml, hown, hts⟩ (c_isOld_o l D cI cP cR (po p) pa ps ph pt pm (ro i) a n ch f ho) (cwV 0 hts gX2_add_X0_isOld rfl rfl rfl (by decide +kernel) ⟨Nat.le_of_ble_eq_true rfl, Nat.le_of_ble_eq_true rfl⟩) hK hP hD [2, 3, 4] rfl (by decide) 0 rfl rfl rfl rfl hl.1 rfl (Nat.le_of_ble_eq_true rfl) dX2_add_46 ⟨Nat.zero_le _, Nat.zero_le _⟩ ?_
  refine lv_if_eq (tgt := 59) hx hb dX2_add_49 (by decide) (fun c => absurd c (by decide)) (fun c => ?_)
  refine lv_aload_n hx hb dX2_add_52 rfl (lv_at hl 2 rfl) ?_
  refine lv_bipush (v := -4) hx hb dX2_add_53 (by decide) ?_
  -- c_refused_o
  refine pw_cVm (As := [.int (-4)]) (rest := []) (wc := [(h, .inr (2, [.ref qr, .ref qp, .int (nI md), .int (r0), .int (r1), .int (r2), .int (r3)]))]) (wr := [(qp, .inl (cP, 4, .inr (.inr (.inr (.inr (fun i => some (po i))))))), (po p, .inr (0, [.ref (ro i), .int (pa), .int (ps), .int (ph), .int (pt), .int (pm)])), (ro i, .inr (1, [.ref a, .int (nI n), .int (ch)])), (a, .inl (cI, 60, .inl (f)))]) ⟨hx, hb, hml, hown, hts⟩ (c_refused_o l D cI cP cR h qr qp md r0 r1 r2 r3) (cwV 1 hts gX2_add_X2_refused rfl rfl rfl (by decide +kernel) ⟨Nat.le_of_ble_eq_true rfl, Nat.le_of_ble_eq_true rfl⟩) hK hP hD hS hA [0] [1, 2, 3, 4] rfl rfl (by decide) (by decide) (by decide) 0 rfl rfl rfl rfl hl.1 rfl (Nat.le_of_ble_eq_true rfl) dX2_add_55 ⟨Nat.zero_le _, Nat.zero_le _⟩ (fun v1 w1 H locs hq hP hD hS => ?_)
  rcases hq with ⟨rfl, rfl⟩
  have hP : va_P D vwCl ([(qp, .inl (cP, 4, .inr (.inr (.inr (.inr (fun i => some (po i))))))), (po p, .inr (0, [.ref (ro i), .int (pa), .int (ps), .int (ph), .int (pt), .int (pm)])), (ro i, .inr (1, [.ref a, .int (nI n), .int (ch)])), (a, .inl (cI, 60, .inl (f))), (h, .inr (2, [.ref qr, .ref qp, .int (nI md), .int (r0), .int (r1), .int (r2), .int (r3 + nI 1)]))]) H := hP
  have hD : va_D A ([(qp, .inl (cP, 4, .inr (.inr (.inr (.inr (fun i => some (po i))))))), (po p, .inr (0, [.ref (ro i), .int (pa), .int (ps), .int (ph), .int (pt), .int (pm)])), (ro i, .inr (1, [.ref a, .int (nI n), .int (ch)])), (a, .inl (cI, 60, .inl (f))), (h, .inr (2, [.ref qr, .ref qp, .int (nI md), .int (r0), .int (r1), .int (r2), .int (r3 + nI 1)]))]) := hD
  refine W.eq (g2 := F0 m 58 ls [.int (-4)]) rfl ?_
  have hP := hP.sub (ws' := [(h, .inr (2, [.ref qr, .ref qp, .int (nI md), .int (r0), .int (r1), .int (r2), .int (r3 + nI 1)])), (qp, .inl (cP, 4, .inr (.inr (.inr (.inr (fun i => some (po i))))))), (po p, .inr (0, [.ref (ro i), .int (pa), .int (ps), .int (ph), .int (pt), .int (pm)])), (ro i, .inr (1, [.ref a, .int (nI n), .int (ch)])), (a, .inl (cI, 60, .inl (f)))]) [4, 0, 1, 2, 3] rfl
  have hD := hD.sub (ws' := [(h, .inr (2, [.ref qr, .ref qp, .int (nI md), .int (r0), .int (r1), .int (r2), .int (r3 + nI 1)])), (qp, .inl (cP, 4, .inr (.inr (.inr (.inr (fun i => some (po i))))))), (po p, .inr (0, [.ref (ro i), .int (pa), .int (ps), .int (ph), .int (pt), .int (pm)])), (ro i, .inr (1, [.ref a, .int (nI n), .int (ch)])), (a, .inl (cI, 60, .inl (f)))]) [4, 0, 1, 2, 3] (by decide) rfl
  exact pw_iret hx hb hr (rfl) hlocks dX2_add_58 hS hP hD (⟨rfl, rfl⟩)
theorem hi_X2_add_1 : ∀ w ∈ u_ws RX1 TX1 3, w ∈ wsX2_add := by decide +kernel
set_option maxHeartbeats 4000000 in
set_option maxRecDepth 100000 in
theorem k_add (l : Launch) (D : va_G) (cI cP cR : ClassId) (h qr qp md : Nat) (r0 r1 r2 r3 : Int32) (po ro : Nat → Nat) (p i a n : Nat) (ch : Int32) (f : Nat → Int32) (pa ps ph pt pm : Int32) (hp4 : p < 4) (hi : i < 3) (hn : n ≤ 60) (nm : Nat) (hnm : nm < 10) (hf : n < 60) (ho : ps = ch) (q : Nat) (hq : q ≤ n) : pw_Mm l yX2_add wsX2_add ({ frames := 2, cells := 0, slots := 0, locals := 45 } : Room) D cI cP cR [.ref h, .int (nI p), .int (nI nm)] ([(h, .inr (2, [.ref qr, .ref qp, .int (nI md), .int (r0), .int (r1), .int (r2), .int (r3)])), (qp, .inl (cP, 4, .inr (.inr (.inr (.inr (fun i => some (po i))))))), (po p, .inr (0, [.ref (ro i), .int (nI q), .int (ps), .int (ph), .int (pt), .int (pm)])), (ro i, .inr (1, [.ref a, .int (nI n), .int (ch)])), (a, .inl (cI, 60, .inl (f)))]) (fun v w => v = some (.int (nI (n + 1))) ∧ w = [(h, .inr (2, [.ref qr, .ref qp, .int (nI (md + 1)), .int (r0), .int (r1), .int (r2), .int (r3)])), (qp, .inl (cP, 4, .inr (.inr (.inr (.inr (fun i => some (po i))))))), (po p, .inr (0, [.ref (ro i), .int (nI (q + 1)), .int (ch + nI 1), .int (-1), .int (pt), .int (nI 0)])), (ro i, .inr (1, [.ref a, .int (nI (n + 1)), .int (ch + nI 1)])), (a, .inl (cI, 60, .inl (upd (opn f q 1 n) q (nI ((md * 10) + nm)))))]) := by
  refine pw_ofm (cc := cX2_add) (maxL := 5) (ret := (some .int)) (own := RX2) (by decide +kernel) rfl rfl (Nat.le_of_ble_eq_true rfl) ?_
  intro p_ e_ s m bel meth cd A hE hK hP hD hA hS ls hl
  obtain ⟨hx, hb, hr, hml, hown, hts, hlocks⟩ := hE
  have hNW := hK.2
  have hl : lv_has ls 5 [(0, .ref h), (1, .int (nI p)), (2, .int (nI nm))] := hl
  refine lv_aload_n hx hb dX2_add_0 rfl (lv_at hl 0 rfl) ?_
  refine lv_iload_n hx hb dX2_add_1 rfl (lv_at hl 1 rfl) ?_
  -- c_pegOf_i
  refine pw_cVp (As := [.int (nI p)]) (rest := []) (wc := [(h, .inr (2, [.ref qr, .ref qp, .int (nI md), .int (r0), .int (r1), .int (r2), .int (r3)])), (qp, .inl (cP, 4, .inr (.inr (.inr (.inr (fun i => some (po i)))))))]) ⟨hx, hb, hml, hown, hts⟩ (c_pegOf_i l D cI cP cR h qr qp md r0 r1 r2 r3 po p (by omega)) (cwV 1 hts gX2_add_X2_pegOf rfl rfl rfl (by decide +kernel) ⟨Nat.le_of_ble_eq_true rfl, Nat.le_of_ble_eq_true rfl⟩) hK hP hD [0, 1] rfl (by decide) 0 rfl rfl rfl rfl hl.1 rfl (Nat.le_of_ble_eq_true rfl) dX2_add_2 ⟨Nat.zero_le _, Nat.zero_le _⟩ ?_
  refine lv_astore_n (lv' := [(3, .ref (po p)), (0, .ref h), (1, .int (nI p)), (2, .int (nI nm))]) hx hb dX2_add_5 rfl hl (by decide) rfl (fun ls hl => ?_)
  refine lv_aload_n hx hb dX2_add_6 rfl (lv_at hl 0 rfl) ?_
  refine lv_ifnull hx hb dX2_add_7 ?_
  refine lv_iload_n hx hb dX2_add_10 rfl (lv_at hl 3 rfl) ?_
  -- c_isName_t
  refine pw_cSp (As := [.int (nI nm)]) (rest := []) ⟨hx, hb, hml, hown, hts⟩ (c_isName_t l D cI cP cR nm (by omega)) (va_cwS 1 hts gX2_add_X2_isName rfl rfl rfl (by decide +kernel) ⟨Nat.le_of_ble_eq_true rfl, Nat.le_of_ble_eq_true rfl⟩) hK rfl hl.1 rfl (Nat.le_of_ble_eq_true rfl) dX2_add_11 ⟨Nat.zero_le _, Nat.zero_le _⟩ ?_
  refine lv_if_ne (tgt := 19) hx hb dX2_add_14 (by decide) (fun c => ?_) (fun c => absurd c (by decide))
  refine lv_aload_n hx hb dX2_add_19 rfl (lv_at hl 0 rfl) ?_
  refine va_getN (D := D) (ci := 0) (v := .ref (ro i)) (C := RX0) (T := TX0) (N := 6) hx hb hts hi_X2_add_0 hown hK.1 hP 2 rfl rfl 0 (by decide) (va_Nw.use rfl hNW.2.1) (fun _ h9 => h9) rfl dX2_add_20 ?_
  refine lv_astore (lv' := [(4, .ref (ro i)), (3, .ref (po p)), (0, .ref h), (1, .int (nI p)), (2, .int (nI nm))]) hx hb dX2_add_23 hl (by decide) rfl (fun ls hl => ?_)
  refine lv_aload hx hb dX2_add_25 (lv_at hl 0 rfl) ?_
  refine lv_ifnonnull (tgt := 33) hx hb dX2_add_27 (by decide) ?_
  refine lv_aload hx hb dX2_add_33 (lv_at hl 0 rfl) ?_
  refine lv_iconst (v := nI 1) hx hb dX2_add_35 (by decide) ?_
  -- c_hasRoomFor_t
  refine pw_cVp (As := [.int (nI 1)]) (rest := []) (wc := [(ro i, .inr (1, [.ref a, .int (nI n), .int (ch)])), (a, .inl (cI, 60, .inl (f)))]) ⟨hx, hb, hml, hown, hts⟩ (c_hasRoomFor_t l D cI cP cR (ro i) a n ch f 1 (by omega)) (cwV 1 hts gX2_add_X1_hasRoomFor rfl rfl rfl (by decide +kernel) ⟨Nat.le_of_ble_eq_true rfl, Nat.le_of_ble_eq_true rfl⟩) hK hP hD [3, 4] rfl (by decide) 0 rfl rfl rfl rfl hl.1 rfl (Nat.le_of_ble_eq_true rfl) dX2_add_36 ⟨Nat.zero_le _, Nat.zero_le _⟩ ?_
  refine lv_if_ne (tgt := 45) hx hb dX2_add_39 (by decide) (fun c => ?_) (fun c => absurd c (by decide))
  refine lv_aload_n hx hb dX2_add_45 rfl (lv_at hl 1 rfl) ?_
  -- c_isOld_f
  refine pw_cVp (As := []) (rest := []) (wc := [(po p, .inr (0, [.ref (ro i), .int (nI q), .int (ps), .int (ph), .int (pt), .int (pm)])), (ro i, .inr (1, [.ref a, .int (nI n), .int (ch)])), (a, .inl (cI, 60, .inl (f)))]) ⟨hx, hb, hml, hown, hts⟩ (c_isOld_f l D cI cP cR (po p) (nI q) ps ph pt pm (ro i) a n ch f ho ⟨pw_ge0 (by omega), (pw_leN (by omega) (by omega)).mpr (by omega)⟩) (cwV 0 hts gX2_add_X0_isOld rfl rfl rfl (by decide +kernel) ⟨Nat.le_of_ble_eq_true rfl, Nat.le_of_ble_eq_true rfl⟩) hK hP hD [2, 3, 4] rfl (by decide) 0 rfl rfl rfl rfl hl.1 rfl (Nat.le_of_ble_eq_true rfl) dX2_add_46 ⟨Nat.zero_le _, Nat.zero_le _⟩ ?_
  refine lv_if_eq (tgt := 59) hx hb dX2_add_49 (by decide) (fun c => ?_) (fun c => absurd c (by decide))
  refine lv_aload hx hb dX2_add_59 (lv_at hl 0 rfl) ?_
  refine lv_aload_n hx hb dX2_add_61 rfl (lv_at hl 1 rfl) ?_
  refine va_getN (D := D) (ci := 0) (v := .int (nI q)) (C := RX0) (T := TX0) (N := 6) hx hb hts hi_X2_add_0 hown hK.1 hP 2 rfl rfl 1 (by decide) (va_Nw.use rfl hNW.2.2.1) (fun _ h9 => h9) rfl dX2_add_62 ?_
  refine lv_aload_n hx hb dX2_add_65 rfl (lv_at hl 2 rfl) ?_
  refine lv_iload_n hx hb dX2_add_66 rfl (lv_at hl 4 rfl) ?_
  -- c_newThing
  refine pw_cVm (As := [.int (nI nm)]) (rest := [.int (nI q), .ref (ro i)]) (wc := [(h, .inr (2, [.ref qr, .ref qp, .int (nI md), .int (r0), .int (r1), .int (r2), .int (r3)]))]) (wr := [(qp, .inl (cP, 4, .inr (.inr (.inr (.inr (fun i => some (po i))))))), (po p, .inr (0, [.ref (ro i), .int (nI q), .int (ps), .int (ph), .int (pt), .int (pm)])), (ro i, .inr (1, [.ref a, .int (nI n), .int (ch)])), (a, .inl (cI, 60, .inl (f)))]) ⟨hx, hb, hml, hown, hts⟩ (c_newThing l D cI cP cR h qr qp md r0 r1 r2 r3 nm) (cwV 1 hts gX2_add_X2_newThing rfl rfl rfl (by decide +kernel) ⟨Nat.le_of_ble_eq_true rfl, Nat.le_of_ble_eq_true rfl⟩) hK hP hD hS hA [0] [1, 2, 3, 4] rfl rfl (by decide) (by decide) (by decide) 0 rfl rfl rfl rfl hl.1 rfl (Nat.le_of_ble_eq_true rfl) dX2_add_67 ⟨Nat.zero_le _, Nat.zero_le _⟩ (fun v1 w1 H locs hq hP hD hS => ?_)
  rcases hq with ⟨rfl, rfl⟩
  have hP : va_P D vwCl ([(qp, .inl (cP, 4, .inr (.inr (.inr (.inr (fun i => some (po i))))))), (po p, .inr (0, [.ref (ro i), .int (nI q), .int (ps), .int (ph), .int (pt), .int (pm)])), (ro i, .inr (1, [.ref a, .int (nI n), .int (ch)])), (a, .inl (cI, 60, .inl (f))), (h, .inr (2, [.ref qr, .ref qp, .int (nI (md + 1)), .int (r0), .int (r1), .int (r2), .int (r3)]))]) H := hP
  have hD : va_D A ([(qp, .inl (cP, 4, .inr (.inr (.inr (.inr (fun i => some (po i))))))), (po p, .inr (0, [.ref (ro i), .int (nI q), .int (ps), .int (ph), .int (pt), .int (pm)])), (ro i, .inr (1, [.ref a, .int (nI n), .int (ch)])), (a, .inl (cI, 60, .inl (f))), (h, .inr (2, [.ref qr, .ref qp, .int (nI (md + 1)), .int (r0), .int (r1), .int (r2), .int (r3)]))]) := hD
  refine W.eq (g2 := F0 m 70 ls [.int (nI ((md * 10) + nm)), .int (nI q), .ref (ro i)]) rfl ?_
  -- c_putAt
  refine pw_cVm (As := [.int (nI q), .int (nI ((md * 10) + nm))]) (rest := []) (wc := [(ro i, .inr (1, [.ref a, .int (nI n), .int (ch)])), (a, .inl (cI, 60, .inl (f)))]) (wr := [(qp, .inl (cP, 4, .inr (.inr (.inr (.inr (fun i => some (po i))))))), (po p, .inr (0, [.ref (ro i), .int (nI q), .int (ps), .int (ph), .int (pt), .int (pm)])), (h, .inr (2, [.ref qr, .ref qp, .int (nI (md + 1)), .int (r0), .int (r1), .int (r2), .int (r3)]))]) ⟨hx, hb, hml, hown, hts⟩ (c_putAt l D cI cP cR (ro i) a n ch f q (nI ((md * 10) + nm)) (by omega) (by omega)) (cwV 2 hts gX2_add_X1_putAt rfl rfl rfl (by decide +kernel) ⟨Nat.le_of_ble_eq_true rfl, Nat.le_of_ble_eq_true rfl⟩) hK hP hD hS hA [2, 3] [0, 1, 4] rfl rfl (by decide) (by decide) (by decide) 0 rfl rfl rfl rfl hl.1 rfl (Nat.le_of_ble_eq_true rfl) dX2_add_70 ⟨Nat.zero_le _, Nat.zero_le _⟩ (fun v1 w1 H locs hq hP hD hS => ?_)
  rcases hq with ⟨rfl, rfl⟩
  have hP : va_P D vwCl ([(qp, .inl (cP, 4, .inr (.inr (.inr (.inr (fun i => some (po i))))))), (po p, .inr (0, [.ref (ro i), .int (nI q), .int (ps), .int (ph), .int (pt), .int (pm)])), (h, .inr (2, [.ref qr, .ref qp, .int (nI (md + 1)), .int (r0), .int (r1), .int (r2), .int (r3)])), (ro i, .inr (1, [.ref a, .int (nI (n + 1)), .int (ch + nI 1)])), (a, .inl (cI, 60, .inl (upd (opn f q 1 n) q (nI ((md * 10) + nm)))))]) H := hP
  have hD : va_D A ([(qp, .inl (cP, 4, .inr (.inr (.inr (.inr (fun i => some (po i))))))), (po p, .inr (0, [.ref (ro i), .int (nI q), .int (ps), .int (ph), .int (pt), .int (pm)])), (h, .inr (2, [.ref qr, .ref qp, .int (nI (md + 1)), .int (r0), .int (r1), .int (r2), .int (r3)])), (ro i, .inr (1, [.ref a, .int (nI (n + 1)), .int (ch + nI 1)])), (a, .inl (cI, 60, .inl (upd (opn f q 1 n) q (nI ((md * 10) + nm)))))]) := hD
  refine W.eq (g2 := F0 m 73 ls []) rfl ?_
  refine lv_aload_n hx hb dX2_add_73 rfl (lv_at hl 1 rfl) ?_
  refine lv_aload hx hb dX2_add_74 (lv_at hl 0 rfl) ?_
  refine lv_aload_n hx hb dX2_add_76 rfl (lv_at hl 1 rfl) ?_
  refine va_getN (D := D) (ci := 0) (v := .int (nI q)) (C := RX0) (T := TX0) (N := 6) hx hb hts hi_X2_add_0 hown hK.1 hP 1 rfl rfl 1 (by decide) (va_Nw.use rfl hNW.2.2.1) (fun _ h9 => h9) rfl dX2_add_77 ?_
  refine lv_iconst (v := nI 1) hx hb dX2_add_80 (by decide) ?_
  refine pw_iadd hx hb dX2_add_81 ?_
  -- c_standIn
  refine pw_cVm (As := [.ref (ro i), .int (nI (q + 1))]) (rest := []) (wc := [(po p, .inr (0, [.ref (ro i), .int (nI q), .int (ps), .int (ph), .int (pt), .int (pm)])), (ro i, .inr (1, [.ref a, .int (nI (n + 1)), .int (ch + nI 1)])), (a, .inl (cI, 60, .inl (upd (opn f q 1 n) q (nI ((md * 10) + nm)))))]) (wr := [(qp, .inl (cP, 4, .inr (.inr (.inr (.inr (fun i => some (po i))))))), (h, .inr (2, [.ref qr, .ref qp, .int (nI (md + 1)), .int (r0), .int (r1), .int (r2), .int (r3)]))]) ⟨hx, hb, hml, hown, hts⟩ (c_standIn l D cI cP cR (po p) (nI q) ps ph pt pm (.ref (ro i)) (ro i) a (n + 1) (ch + nI 1) (upd (opn f q 1 n) q (nI ((md * 10) + nm))) (nI (q + 1))) (cwV 2 hts gX2_add_X0_standIn rfl rfl rfl (by decide +kernel) ⟨Nat.le_of_ble_eq_true rfl, Nat.le_of_ble_eq_true rfl⟩) hK hP hD hS hA [1, 3, 4] [0, 2] rfl rfl (by decide) (by decide) (by decide) 0 rfl rfl rfl rfl hl.1 rfl (Nat.le_of_ble_eq_true rfl) dX2_add_82 ⟨Nat.zero_le _, Nat.zero_le _⟩ (fun v1 w1 H locs hq hP hD hS => ?_)
  rcases hq with ⟨rfl, rfl⟩
  have hP : va_P D vwCl ([(qp, .inl (cP, 4, .inr (.inr (.inr (.inr (fun i => some (po i))))))), (h, .inr (2, [.ref qr, .ref qp, .int (nI (md + 1)), .int (r0), .int (r1), .int (r2), .int (r3)])), (po p, .inr (0, [.ref (ro i), .int (nI (q + 1)), .int (ch + nI 1), .int (-1), .int (pt), .int (nI 0)])), (ro i, .inr (1, [.ref a, .int (nI (n + 1)), .int (ch + nI 1)])), (a, .inl (cI, 60, .inl (upd (opn f q 1 n) q (nI ((md * 10) + nm)))))]) H := hP
  have hD : va_D A ([(qp, .inl (cP, 4, .inr (.inr (.inr (.inr (fun i => some (po i))))))), (h, .inr (2, [.ref qr, .ref qp, .int (nI (md + 1)), .int (r0), .int (r1), .int (r2), .int (r3)])), (po p, .inr (0, [.ref (ro i), .int (nI (q + 1)), .int (ch + nI 1), .int (-1), .int (pt), .int (nI 0)])), (ro i, .inr (1, [.ref a, .int (nI (n + 1)), .int (ch + nI 1)])), (a, .inl (cI, 60, .inl (upd (opn f q 1 n) q (nI ((md * 10) + nm)))))]) := hD
  refine W.eq (g2 := F0 m 85 ls []) rfl ?_
  refine lv_aload hx hb dX2_add_85 (lv_at hl 0 rfl) ?_
  refine va_getN (D := D) (ci := 1) (v := .int (nI (n + 1))) (C := RX1) (T := TX1) (N := 3) hx hb hts hi_X2_add_1 hown hK.1 hP 3 rfl rfl 1 (by decide) (va_Nw.use rfl hNW.1) (fun _ h9 => h9) rfl dX2_add_87 ?_
  have hP := hP.sub (ws' := [(h, .inr (2, [.ref qr, .ref qp, .int (nI (md + 1)), .int (r0), .int (r1), .int (r2), .int (r3)])), (qp, .inl (cP, 4, .inr (.inr (.inr (.inr (fun i => some (po i))))))), (po p, .inr (0, [.ref (ro i), .int (nI (q + 1)), .int (ch + nI 1), .int (-1), .int (pt), .int (nI 0)])), (ro i, .inr (1, [.ref a, .int (nI (n + 1)), .int (ch + nI 1)])), (a, .inl (cI, 60, .inl (upd (opn f q 1 n) q (nI ((md * 10) + nm)))))]) [1, 0, 2, 3, 4] rfl
  have hD := hD.sub (ws' := [(h, .inr (2, [.ref qr, .ref qp, .int (nI (md + 1)), .int (r0), .int (r1), .int (r2), .int (r3)])), (qp, .inl (cP, 4, .inr (.inr (.inr (.inr (fun i => some (po i))))))), (po p, .inr (0, [.ref (ro i), .int (nI (q + 1)), .int (ch + nI 1), .int (-1), .int (pt), .int (nI 0)])), (ro i, .inr (1, [.ref a, .int (nI (n + 1)), .int (ch + nI 1)])), (a, .inl (cI, 60, .inl (upd (opn f q 1 n) q (nI ((md * 10) + nm)))))]) [1, 0, 2, 3, 4] (by decide) rfl
  exact pw_iret hx hb hr (rfl) hlocks dX2_add_90 hS hP hD (⟨rfl, rfl⟩)
set_option maxHeartbeats 4000000 in
set_option maxRecDepth 100000 in
theorem k_old_x (l : Launch) (D : va_G) (cI cP cR : ClassId) (h qr qp md : Nat) (r0 r1 r2 r3 : Int32) (po : Nat → Nat) (peg : Int32) (hx_peg : ¬ (0 ≤ peg ∧ peg < nI 4)) : pw_Mp l yX2_old wsX2_old ({ frames := 2, cells := 0, slots := 0, locals := 45 } : Room) D cI cP cR [.ref h, .int (peg)] ([(h, .inr (2, [.ref qr, .ref qp, .int (nI md), .int (r0), .int (r1), .int (r2), .int (r3)])), (qp, .inl (cP, 4, .inr (.inr (.inr (.inr (fun i => some (po i)))))))]) (.int (-1)) := by
  refine pw_ofp (cc := cX2_old) (maxL := 3) (ret := (some .int)) (own := RX2) (by decide +kernel) rfl rfl (Nat.le_of_ble_eq_true rfl) ?_
  intro p_ e_ s m bel meth cd hE hK hP hD ls hl
  obtain ⟨hx, hb, hr, hml, hown, hts, hlocks⟩ := hE
  have hNW := hK.2
  have hl : lv_has ls 3 [(0, .ref h), (1, .int (peg))] := hl
  refine lv_aload_n hx hb dX2_old_0 rfl (lv_at hl 0 rfl) ?_
  refine lv_iload_n hx hb dX2_old_1 rfl (lv_at hl 1 rfl) ?_
  -- c_pegOf_n
  refine pw_cVp (As := [.int (peg)]) (rest := []) (wc := [(h, .inr (2, [.ref qr, .ref qp, .int (nI md), .int (r0), .int (r1), .int (r2), .int (r3)])), (qp, .inl (cP, 4, .inr (.inr (.inr (.inr (fun i => some (po i)))))))]) ⟨hx, hb, hml, hown, hts⟩ (c_pegOf_n l D cI cP cR h qr qp md r0 r1 r2 r3 po peg hx_peg) (cwV 1 hts gX2_old_X2_pegOf rfl rfl rfl (by decide +kernel) ⟨Nat.le_of_ble_eq_true rfl, Nat.le_of_ble_eq_true rfl⟩) hK hP hD [0, 1] rfl (by decide) 0 rfl rfl rfl rfl hl.1 rfl (Nat.le_of_ble_eq_true rfl) dX2_old_2 ⟨Nat.zero_le _, Nat.zero_le _⟩ ?_
  refine lv_astore_nN (lv' := [(2, .null), (0, .ref h), (1, .int (peg))]) hx hb dX2_old_5 rfl hl (by decide) rfl (fun ls hl => ?_)
  refine lv_aload_nN hx hb dX2_old_6 rfl (lv_at hl 0 rfl) ?_
  refine lv_ifnonnullN hx hb dX2_old_7 ?_
  refine lv_iconst (v := -1) hx hb dX2_old_10 (by decide) ?_
  exact pw_piret hx hb hr (rfl) hlocks dX2_old_11 (rfl)
theorem hi_X2_old_0 : ∀ w ∈ u_ws RX0 TX0 6, w ∈ wsX2_old := by decide +kernel
set_option maxHeartbeats 4000000 in
set_option maxRecDepth 100000 in
theorem k_old_n (l : Launch) (D : va_G) (cI cP cR : ClassId) (h qr qp md : Nat) (r0 r1 r2 r3 : Int32) (po : Nat → Nat) (p : Nat) (pa ps ph pt pm : Int32) (hp4 : p < 4) : pw_Mp l yX2_old wsX2_old ({ frames := 2, cells := 0, slots := 0, locals := 45 } : Room) D cI cP cR [.ref h, .int (nI p)] ([(h, .inr (2, [.ref qr, .ref qp, .int (nI md), .int (r0), .int (r1), .int (r2), .int (r3)])), (qp, .inl (cP, 4, .inr (.inr (.inr (.inr (fun i => some (po i))))))), (po p, .inr (0, [.null, .int (pa), .int (ps), .int (ph), .int (pt), .int (pm)]))]) (.int (-2)) := by
  refine pw_ofp (cc := cX2_old) (maxL := 3) (ret := (some .int)) (own := RX2) (by decide +kernel) rfl rfl (Nat.le_of_ble_eq_true rfl) ?_
  intro p_ e_ s m bel meth cd hE hK hP hD ls hl
  obtain ⟨hx, hb, hr, hml, hown, hts, hlocks⟩ := hE
  have hNW := hK.2
  have hl : lv_has ls 3 [(0, .ref h), (1, .int (nI p))] := hl
  refine lv_aload_n hx hb dX2_old_0 rfl (lv_at hl 0 rfl) ?_
  refine lv_iload_n hx hb dX2_old_1 rfl (lv_at hl 1 rfl) ?_
  -- c_pegOf_i
  refine pw_cVp (As := [.int (nI p)]) (rest := []) (wc := [(h, .inr (2, [.ref qr, .ref qp, .int (nI md), .int (r0), .int (r1), .int (r2), .int (r3)])), (qp, .inl (cP, 4, .inr (.inr (.inr (.inr (fun i => some (po i)))))))]) ⟨hx, hb, hml, hown, hts⟩ (c_pegOf_i l D cI cP cR h qr qp md r0 r1 r2 r3 po p (by omega)) (cwV 1 hts gX2_old_X2_pegOf rfl rfl rfl (by decide +kernel) ⟨Nat.le_of_ble_eq_true rfl, Nat.le_of_ble_eq_true rfl⟩) hK hP hD [0, 1] rfl (by decide) 0 rfl rfl rfl rfl hl.1 rfl (Nat.le_of_ble_eq_true rfl) dX2_old_2 ⟨Nat.zero_le _, Nat.zero_le _⟩ ?_
  refine lv_astore_n (lv' := [(2, .ref (po p)), (0, .ref h), (1, .int (nI p))]) hx hb dX2_old_5 rfl hl (by decide) rfl (fun ls hl => ?_)
  refine lv_aload_n hx hb dX2_old_6 rfl (lv_at hl 0 rfl) ?_
  refine lv_ifnonnull (tgt := 12) hx hb dX2_old_7 (by decide) ?_
  refine lv_aload_n hx hb dX2_old_12 rfl (lv_at hl 0 rfl) ?_
  refine va_getN (D := D) (ci := 0) (v := .null) (C := RX0) (T := TX0) (N := 6) hx hb hts hi_X2_old_0 hown hK.1 hP 2 rfl rfl 0 (by decide) (va_Nw.use rfl hNW.2.1) (fun _ h9 => h9) rfl dX2_old_13 ?_
  refine lv_ifnonnullN hx hb dX2_old_16 ?_
  refine lv_bipush (v := -2) hx hb dX2_old_19 (by decide) ?_
  exact pw_piret hx hb hr (rfl) hlocks dX2_old_21 (rfl)
set_option maxHeartbeats 4000000 in
set_option maxRecDepth 100000 in
theorem k_old (l : Launch) (D : va_G) (cI cP cR : ClassId) (h qr qp md : Nat) (r0 r1 r2 r3 : Int32) (po ro : Nat → Nat) (p i a n : Nat) (ch : Int32) (f : Nat → Int32) (pa ps ph pt pm : Int32) (hp4 : p < 4) (hi : i < 3) (hn : n ≤ 60) (hw : ps = ch → 0 ≤ pa ∧ pa ≤ nI n) : pw_Mp l yX2_old wsX2_old ({ frames := 2, cells := 0, slots := 0, locals := 45 } : Room) D cI cP cR [.ref h, .int (nI p)] ([(h, .inr (2, [.ref qr, .ref qp, .int (nI md), .int (r0), .int (r1), .int (r2), .int (r3)])), (qp, .inl (cP, 4, .inr (.inr (.inr (.inr (fun i => some (po i))))))), (po p, .inr (0, [.ref (ro i), .int (pa), .int (ps), .int (ph), .int (pt), .int (pm)])), (ro i, .inr (1, [.ref a, .int (nI n), .int (ch)])), (a, .inl (cI, 60, .inl (f)))]) (.int (if ps = ch then 0 else 1)) := by
  refine pw_ofp (cc := cX2_old) (maxL := 3) (ret := (some .int)) (own := RX2) (by decide +kernel) rfl rfl (Nat.le_of_ble_eq_true rfl) ?_
  intro p_ e_ s m bel meth cd hE hK hP hD ls hl
  obtain ⟨hx, hb, hr, hml, hown, hts, hlocks⟩ := hE
  have hNW := hK.2
  have hl : lv_has ls 3 [(0, .ref h), (1, .int (nI p))] := hl
  refine lv_aload_n hx hb dX2_old_0 rfl (lv_at hl 0 rfl) ?_
  refine lv_iload_n hx hb dX2_old_1 rfl (lv_at hl 1 rfl) ?_
  -- c_pegOf_i
  refine pw_cVp (As := [.int (nI p)]) (rest := []) (wc := [(h, .inr (2, [.ref qr, .ref qp, .int (nI md), .int (r0), .int (r1), .int (r2), .int (r3)])), (qp, .inl (cP, 4, .inr (.inr (.inr (.inr (fun i => some (po i)))))))]) ⟨hx, hb, hml, hown, hts⟩ (c_pegOf_i l D cI cP cR h qr qp md r0 r1 r2 r3 po p (by omega)) (cwV 1 hts gX2_old_X2_pegOf rfl rfl rfl (by decide +kernel) ⟨Nat.le_of_ble_eq_true rfl, Nat.le_of_ble_eq_true rfl⟩) hK hP hD [0, 1] rfl (by decide) 0 rfl rfl rfl rfl hl.1 rfl (Nat.le_of_ble_eq_true rfl) dX2_old_2 ⟨Nat.zero_le _, Nat.zero_le _⟩ ?_
  refine lv_astore_n (lv' := [(2, .ref (po p)), (0, .ref h), (1, .int (nI p))]) hx hb dX2_old_5 rfl hl (by decide) rfl (fun ls hl => ?_)
  refine lv_aload_n hx hb dX2_old_6 rfl (lv_at hl 0 rfl) ?_
  refine lv_ifnonnull (tgt := 12) hx hb dX2_old_7 (by decide) ?_
  refine lv_aload_n hx hb dX2_old_12 rfl (lv_at hl 0 rfl) ?_
  refine va_getN (D := D) (ci := 0) (v := .ref (ro i)) (C := RX0) (T := TX0) (N := 6) hx hb hts hi_X2_old_0 hown hK.1 hP 2 rfl rfl 0 (by decide) (va_Nw.use rfl hNW.2.1) (fun _ h9 => h9) rfl dX2_old_13 ?_
  refine lv_ifnonnull (tgt := 22) hx hb dX2_old_16 (by decide) ?_
  refine lv_aload_n hx hb dX2_old_22 rfl (lv_at hl 0 rfl) ?_
  -- c_isOld_r
  refine pw_cVp (As := []) (rest := []) (wc := [(po p, .inr (0, [.ref (ro i), .int (pa), .int (ps), .int (ph), .int (pt), .int (pm)])), (ro i, .inr (1, [.ref a, .int (nI n), .int (ch)])), (a, .inl (cI, 60, .inl (f)))]) ⟨hx, hb, hml, hown, hts⟩ (c_isOld_r l D cI cP cR (po p) pa ps ph pt pm (ro i) a n ch f hw) (cwV 0 hts gX2_old_X0_isOld rfl rfl rfl (by decide +kernel) ⟨Nat.le_of_ble_eq_true rfl, Nat.le_of_ble_eq_true rfl⟩) hK hP hD [2, 3, 4] rfl (by decide) 0 rfl rfl rfl rfl hl.1 rfl (Nat.le_of_ble_eq_true rfl) dX2_old_23 ⟨Nat.zero_le _, Nat.zero_le _⟩ ?_
  -- c_oneIf
  refine pw_cSp (As := [.int (if ps = ch then 0 else 1)]) (rest := []) ⟨hx, hb, hml, hown, hts⟩ (c_oneIf l D cI cP cR (if ps = ch then 0 else 1)) (va_cwS 1 hts gX2_old_X2_oneIf rfl rfl rfl (by decide +kernel) ⟨Nat.le_of_ble_eq_true rfl, Nat.le_of_ble_eq_true rfl⟩) hK rfl hl.1 rfl (Nat.le_of_ble_eq_true rfl) dX2_old_26 ⟨Nat.zero_le _, Nat.zero_le _⟩ ?_
  exact pw_piret hx hb hr (rfl) hlocks dX2_old_29 (by by_cases hps : ps = ch <;> simp [hps])
theorem hi_X2_standingPegs_0 : ∀ w ∈ u_ws RX0 TX0 6, w ∈ wsX2_standingPegs := by decide +kernel
theorem hi_X2_standingPegs_2 : ∀ w ∈ u_ws RX2 TX2 7, w ∈ wsX2_standingPegs := by decide +kernel
theorem hf_X2_standingPegs_17 : Cond.fieldLink RX2 17 "Pegrow" "pegs" "[LPegrow$Peg;" ∈ wsX2_standingPegs := by decide +kernel
set_option maxHeartbeats 4000000 in
set_option maxRecDepth 100000 in
theorem c_standingPegs (l : Launch) (D : va_G) (cI cP cR : ClassId) (h qr qp md : Nat) (r0 r1 r2 r3 : Int32) (po : Nat → Nat) (pr0 : Option Nat) (pa0 ps0 ph0 pt0 pm0 : Int32) (pr1 : Option Nat) (pa1 ps1 ph1 pt1 pm1 : Int32) (pr2 : Option Nat) (pa2 ps2 ph2 pt2 pm2 : Int32) (pr3 : Option Nat) (pa3 ps3 ph3 pt3 pm3 : Int32) : pw_Mp l yX2_standingPegs wsX2_standingPegs ({ frames := 0, cells := 0, slots := 0, locals := 0 } : Room) D cI cP cR [.ref h] ([(h, .inr (2, [.ref qr, .ref qp, .int (nI md), .int (r0), .int (r1), .int (r2), .int (r3)])), (qp, .inl (cP, 4, .inr (.inr (.inr (.inr (fun i => some (po i))))))), (po 0, .inr (0, [va_rf (pr0), .int (pa0), .int (ps0), .int (ph0), .int (pt0), .int (pm0)])), (po 1, .inr (0, [va_rf (pr1), .int (pa1), .int (ps1), .int (ph1), .int (pt1), .int (pm1)])), (po 2, .inr (0, [va_rf (pr2), .int (pa2), .int (ps2), .int (ph2), .int (pt2), .int (pm2)])), (po 3, .inr (0, [va_rf (pr3), .int (pa3), .int (ps3), .int (ph3), .int (pt3), .int (pm3)]))]) (.int (nI ((if pr0 = none then 0 else 1) + (if pr1 = none then 0 else 1) + (if pr2 = none then 0 else 1) + (if pr3 = none then 0 else 1)))) := by
  refine pw_ofp (cc := cX2_standingPegs) (maxL := 3) (ret := (some .int)) (own := RX2) (by decide +kernel) rfl rfl (Nat.le_of_ble_eq_true rfl) ?_
  intro p_ e_ s m bel meth cd hE hK hP hD ls hl
  obtain ⟨hx, hb, hr, hml, hown, hts, hlocks⟩ := hE
  have hNW := hK.2
  have hl : lv_has ls 3 [(0, .ref h)] := hl
  refine lv_iconst (v := nI 0) hx hb dX2_standingPegs_0 (by decide) ?_
  refine lv_istore_n (lv' := [(1, .int (nI 0)), (0, .ref h)]) hx hb dX2_standingPegs_1 rfl hl (by decide) rfl (fun ls hl => ?_)
  refine lv_iconst (v := nI 0) hx hb dX2_standingPegs_2 (by decide) ?_
  refine lv_istore_n (lv' := [(2, .int (nI 0)), (1, .int (nI 0)), (0, .ref h)]) hx hb dX2_standingPegs_3 rfl hl (by decide) rfl (fun ls hl => ?_)
  refine lv_iload_n hx hb dX2_standingPegs_4 rfl (lv_at hl 0 rfl) ?_
  refine lv_aload_n hx hb dX2_standingPegs_5 rfl (lv_at hl 2 rfl) ?_
  refine va_get (D := D) (ci := 2) (v := .ref qp) (C := RX2) (T := TX2) (N := 7) hx hb hts hi_X2_standingPegs_2 hown hK.1 hP 0 rfl rfl 1 (by decide) (hts _ hf_X2_standingPegs_17) (fun _ h9 => h9) rfl dX2_standingPegs_6 ?_
  refine va_alen (v := nI 4) hx hb hK.1 hP 1 1 rfl rfl rfl dX2_standingPegs_9 ?_
  refine lv_icmp_ge (tgt := 34) hx hb dX2_standingPegs_10 (by decide) (fun c => absurd c (by decide)) (fun c => ?_)
  refine lv_aload_n hx hb dX2_standingPegs_13 rfl (lv_at hl 2 rfl) ?_
  refine va_get (D := D) (ci := 2) (v := .ref qp) (C := RX2) (T := TX2) (N := 7) hx hb hts hi_X2_standingPegs_2 hown hK.1 hP 0 rfl rfl 1 (by decide) (hts _ hf_X2_standingPegs_17) (fun _ h9 => h9) rfl dX2_standingPegs_14 ?_
  refine lv_iload_n hx hb dX2_standingPegs_17 rfl (lv_at hl 0 rfl) ?_
  refine pw_aldq hx hb hK.1 hP 1 1 rfl rfl (by decide) (by omega) dX2_standingPegs_18 ?_
  refine va_getN (D := D) (ci := 0) (v := va_rf (pr0)) (C := RX0) (T := TX0) (N := 6) hx hb hts hi_X2_standingPegs_0 hown hK.1 hP 2 rfl rfl 0 (by decide) (va_Nw.use rfl hNW.2.1) (fun _ h9 => h9) rfl dX2_standingPegs_19 ?_
  refine pw_ifnull (tgt := 28) hx hb dX2_standingPegs_22 (by decide) (fun c_1 => ?_) (fun c_1 => ?_)
  · have _h := c_1
    refine lv_iinc (v := nI 1) (lv' := [(2, .int (nI 1)), (1, .int (nI 0)), (0, .ref h)]) hx hb dX2_standingPegs_28 hl (k := 0) rfl (pw_inc _ 1) (by decide) rfl (fun ls hl => ?_)
    refine lv_goto (tgt := 4) hx hb dX2_standingPegs_31 (by decide) ?_
    refine lv_iload_n hx hb dX2_standingPegs_4 rfl (lv_at hl 0 rfl) ?_
    refine lv_aload_n hx hb dX2_standingPegs_5 rfl (lv_at hl 2 rfl) ?_
    refine va_get (D := D) (ci := 2) (v := .ref qp) (C := RX2) (T := TX2) (N := 7) hx hb hts hi_X2_standingPegs_2 hown hK.1 hP 0 rfl rfl 1 (by decide) (hts _ hf_X2_standingPegs_17) (fun _ h9 => h9) rfl dX2_standingPegs_6 ?_
    refine va_alen (v := nI 4) hx hb hK.1 hP 1 1 rfl rfl rfl dX2_standingPegs_9 ?_
    refine lv_icmp_ge (tgt := 34) hx hb dX2_standingPegs_10 (by decide) (fun c => absurd c (by decide)) (fun c => ?_)
    refine lv_aload_n hx hb dX2_standingPegs_13 rfl (lv_at hl 2 rfl) ?_
    refine va_get (D := D) (ci := 2) (v := .ref qp) (C := RX2) (T := TX2) (N := 7) hx hb hts hi_X2_standingPegs_2 hown hK.1 hP 0 rfl rfl 1 (by decide) (hts _ hf_X2_standingPegs_17) (fun _ h9 => h9) rfl dX2_standingPegs_14 ?_
    refine lv_iload_n hx hb dX2_standingPegs_17 rfl (lv_at hl 0 rfl) ?_
    refine pw_aldq hx hb hK.1 hP 1 1 rfl rfl (by decide) (by omega) dX2_standingPegs_18 ?_
    refine va_getN (D := D) (ci := 0) (v := va_rf (pr1)) (C := RX0) (T := TX0) (N := 6) hx hb hts hi_X2_standingPegs_0 hown hK.1 hP 3 rfl rfl 0 (by decide) (va_Nw.use rfl hNW.2.1) (fun _ h9 => h9) rfl dX2_standingPegs_19 ?_
    refine pw_ifnull (tgt := 28) hx hb dX2_standingPegs_22 (by decide) (fun c_2 => ?_) (fun c_2 => ?_)
    · have _h := c_2
      refine lv_iinc (v := nI 2) (lv' := [(2, .int (nI 2)), (1, .int (nI 0)), (0, .ref h)]) hx hb dX2_standingPegs_28 hl (k := 0) rfl (pw_inc _ 1) (by decide) rfl (fun ls hl => ?_)
      refine lv_goto (tgt := 4) hx hb dX2_standingPegs_31 (by decide) ?_
      refine lv_iload_n hx hb dX2_standingPegs_4 rfl (lv_at hl 0 rfl) ?_
      refine lv_aload_n hx hb dX2_standingPegs_5 rfl (lv_at hl 2 rfl) ?_
      refine va_get (D := D) (ci := 2) (v := .ref qp) (C := RX2) (T := TX2) (N := 7) hx hb hts hi_X2_standingPegs_2 hown hK.1 hP 0 rfl rfl 1 (by decide) (hts _ hf_X2_standingPegs_17) (fun _ h9 => h9) rfl dX2_standingPegs_6 ?_
      refine va_alen (v := nI 4) hx hb hK.1 hP 1 1 rfl rfl rfl dX2_standingPegs_9 ?_
      refine lv_icmp_ge (tgt := 34) hx hb dX2_standingPegs_10 (by decide) (fun c => absurd c (by decide)) (fun c => ?_)
      refine lv_aload_n hx hb dX2_standingPegs_13 rfl (lv_at hl 2 rfl) ?_
      refine va_get (D := D) (ci := 2) (v := .ref qp) (C := RX2) (T := TX2) (N := 7) hx hb hts hi_X2_standingPegs_2 hown hK.1 hP 0 rfl rfl 1 (by decide) (hts _ hf_X2_standingPegs_17) (fun _ h9 => h9) rfl dX2_standingPegs_14 ?_
      refine lv_iload_n hx hb dX2_standingPegs_17 rfl (lv_at hl 0 rfl) ?_
      refine pw_aldq hx hb hK.1 hP 1 1 rfl rfl (by decide) (by omega) dX2_standingPegs_18 ?_
      refine va_getN (D := D) (ci := 0) (v := va_rf (pr2)) (C := RX0) (T := TX0) (N := 6) hx hb hts hi_X2_standingPegs_0 hown hK.1 hP 4 rfl rfl 0 (by decide) (va_Nw.use rfl hNW.2.1) (fun _ h9 => h9) rfl dX2_standingPegs_19 ?_
      refine pw_ifnull (tgt := 28) hx hb dX2_standingPegs_22 (by decide) (fun c_3 => ?_) (fun c_3 => ?_)
      · have _h := c_3
        refine lv_iinc (v := nI 3) (lv' := [(2, .int (nI 3)), (1, .int (nI 0)), (0, .ref h)]) hx hb dX2_standingPegs_28 hl (k := 0) rfl (pw_inc _ 1) (by decide) rfl (fun ls hl => ?_)
        refine lv_goto (tgt := 4) hx hb dX2_standingPegs_31 (by decide) ?_
        refine lv_iload_n hx hb dX2_standingPegs_4 rfl (lv_at hl 0 rfl) ?_
        refine lv_aload_n hx hb dX2_standingPegs_5 rfl (lv_at hl 2 rfl) ?_
        refine va_get (D := D) (ci := 2) (v := .ref qp) (C := RX2) (T := TX2) (N := 7) hx hb hts hi_X2_standingPegs_2 hown hK.1 hP 0 rfl rfl 1 (by decide) (hts _ hf_X2_standingPegs_17) (fun _ h9 => h9) rfl dX2_standingPegs_6 ?_
        refine va_alen (v := nI 4) hx hb hK.1 hP 1 1 rfl rfl rfl dX2_standingPegs_9 ?_
        refine lv_icmp_ge (tgt := 34) hx hb dX2_standingPegs_10 (by decide) (fun c => absurd c (by decide)) (fun c => ?_)
        refine lv_aload_n hx hb dX2_standingPegs_13 rfl (lv_at hl 2 rfl) ?_
        refine va_get (D := D) (ci := 2) (v := .ref qp) (C := RX2) (T := TX2) (N := 7) hx hb hts hi_X2_standingPegs_2 hown hK.1 hP 0 rfl rfl 1 (by decide) (hts _ hf_X2_standingPegs_17) (fun _ h9 => h9) rfl dX2_standingPegs_14 ?_
        refine lv_iload_n hx hb dX2_standingPegs_17 rfl (lv_at hl 0 rfl) ?_
        refine pw_aldq hx hb hK.1 hP 1 1 rfl rfl (by decide) (by omega) dX2_standingPegs_18 ?_
        refine va_getN (D := D) (ci := 0) (v := va_rf (pr3)) (C := RX0) (T := TX0) (N := 6) hx hb hts hi_X2_standingPegs_0 hown hK.1 hP 5 rfl rfl 0 (by decide) (va_Nw.use rfl hNW.2.1) (fun _ h9 => h9) rfl dX2_standingPegs_19 ?_
        refine pw_ifnull (tgt := 28) hx hb dX2_standingPegs_22 (by decide) (fun c_4 => ?_) (fun c_4 => ?_)
        · have _h := c_4
          refine lv_iinc (v := nI 4) (lv' := [(2, .int (nI 4)), (1, .int (nI 0)), (0, .ref h)]) hx hb dX2_standingPegs_28 hl (k := 0) rfl (pw_inc _ 1) (by decide) rfl (fun ls hl => ?_)
          refine lv_goto (tgt := 4) hx hb dX2_standingPegs_31 (by decide) ?_
          refine lv_iload_n hx hb dX2_standingPegs_4 rfl (lv_at hl 0 rfl) ?_
          refine lv_aload_n hx hb dX2_standingPegs_5 rfl (lv_at hl 2 rfl) ?_
          refine va_get (D := D) (ci := 2) (v := .ref qp) (C := RX2) (T := TX2) (N := 7) hx hb hts hi_X2_standingPegs_2 hown hK.1 hP 0 rfl rfl 1 (by decide) (hts _ hf_X2_standingPegs_17) (fun _ h9 => h9) rfl dX2_standingPegs_6 ?_
          refine va_alen (v := nI 4) hx hb hK.1 hP 1 1 rfl rfl rfl dX2_standingPegs_9 ?_
          refine lv_icmp_ge (tgt := 34) hx hb dX2_standingPegs_10 (by decide) (fun c => ?_) (fun c => absurd c (by decide))
          refine lv_iload_n hx hb dX2_standingPegs_34 rfl (lv_at hl 1 rfl) ?_
          exact pw_piret hx hb hr (rfl) hlocks dX2_standingPegs_35 (by rw [if_pos c_1, if_pos c_2, if_pos c_3, if_pos c_4])
        · have _h := c_4
          refine lv_iinc (v := nI 1) (lv' := [(1, .int (nI 1)), (2, .int (nI 3)), (0, .ref h)]) hx hb dX2_standingPegs_25 hl (k := 1) rfl (pw_inc _ 1) (by decide) rfl (fun ls hl => ?_)
          refine lv_iinc (v := nI 4) (lv' := [(2, .int (nI 4)), (1, .int (nI 1)), (0, .ref h)]) hx hb dX2_standingPegs_28 hl (k := 1) rfl (pw_inc _ 1) (by decide) rfl (fun ls hl => ?_)
          refine lv_goto (tgt := 4) hx hb dX2_standingPegs_31 (by decide) ?_
          refine lv_iload_n hx hb dX2_standingPegs_4 rfl (lv_at hl 0 rfl) ?_
          refine lv_aload_n hx hb dX2_standingPegs_5 rfl (lv_at hl 2 rfl) ?_
          refine va_get (D := D) (ci := 2) (v := .ref qp) (C := RX2) (T := TX2) (N := 7) hx hb hts hi_X2_standingPegs_2 hown hK.1 hP 0 rfl rfl 1 (by decide) (hts _ hf_X2_standingPegs_17) (fun _ h9 => h9) rfl dX2_standingPegs_6 ?_
          refine va_alen (v := nI 4) hx hb hK.1 hP 1 1 rfl rfl rfl dX2_standingPegs_9 ?_
          refine lv_icmp_ge (tgt := 34) hx hb dX2_standingPegs_10 (by decide) (fun c => ?_) (fun c => absurd c (by decide))
          refine lv_iload_n hx hb dX2_standingPegs_34 rfl (lv_at hl 1 rfl) ?_
          exact pw_piret hx hb hr (rfl) hlocks dX2_standingPegs_35 (by rw [if_pos c_1, if_pos c_2, if_pos c_3, if_neg c_4])
      · have _h := c_3
        refine lv_iinc (v := nI 1) (lv' := [(1, .int (nI 1)), (2, .int (nI 2)), (0, .ref h)]) hx hb dX2_standingPegs_25 hl (k := 1) rfl (pw_inc _ 1) (by decide) rfl (fun ls hl => ?_)
        refine lv_iinc (v := nI 3) (lv' := [(2, .int (nI 3)), (1, .int (nI 1)), (0, .ref h)]) hx hb dX2_standingPegs_28 hl (k := 1) rfl (pw_inc _ 1) (by decide) rfl (fun ls hl => ?_)
        refine lv_goto (tgt := 4) hx hb dX2_standingPegs_31 (by decide) ?_
        refine lv_iload_n hx hb dX2_standingPegs_4 rfl (lv_at hl 0 rfl) ?_
        refine lv_aload_n hx hb dX2_standingPegs_5 rfl (lv_at hl 2 rfl) ?_
        refine va_get (D := D) (ci := 2) (v := .ref qp) (C := RX2) (T := TX2) (N := 7) hx hb hts hi_X2_standingPegs_2 hown hK.1 hP 0 rfl rfl 1 (by decide) (hts _ hf_X2_standingPegs_17) (fun _ h9 => h9) rfl dX2_standingPegs_6 ?_
        refine va_alen (v := nI 4) hx hb hK.1 hP 1 1 rfl rfl rfl dX2_standingPegs_9 ?_
        refine lv_icmp_ge (tgt := 34) hx hb dX2_standingPegs_10 (by decide) (fun c => absurd c (by decide)) (fun c => ?_)
        refine lv_aload_n hx hb dX2_standingPegs_13 rfl (lv_at hl 2 rfl) ?_
        refine va_get (D := D) (ci := 2) (v := .ref qp) (C := RX2) (T := TX2) (N := 7) hx hb hts hi_X2_standingPegs_2 hown hK.1 hP 0 rfl rfl 1 (by decide) (hts _ hf_X2_standingPegs_17) (fun _ h9 => h9) rfl dX2_standingPegs_14 ?_
        refine lv_iload_n hx hb dX2_standingPegs_17 rfl (lv_at hl 0 rfl) ?_
        refine pw_aldq hx hb hK.1 hP 1 1 rfl rfl (by decide) (by omega) dX2_standingPegs_18 ?_
        refine va_getN (D := D) (ci := 0) (v := va_rf (pr3)) (C := RX0) (T := TX0) (N := 6) hx hb hts hi_X2_standingPegs_0 hown hK.1 hP 5 rfl rfl 0 (by decide) (va_Nw.use rfl hNW.2.1) (fun _ h9 => h9) rfl dX2_standingPegs_19 ?_
        refine pw_ifnull (tgt := 28) hx hb dX2_standingPegs_22 (by decide) (fun c_5 => ?_) (fun c_5 => ?_)
        · have _h := c_5
          refine lv_iinc (v := nI 4) (lv' := [(2, .int (nI 4)), (1, .int (nI 1)), (0, .ref h)]) hx hb dX2_standingPegs_28 hl (k := 0) rfl (pw_inc _ 1) (by decide) rfl (fun ls hl => ?_)
          refine lv_goto (tgt := 4) hx hb dX2_standingPegs_31 (by decide) ?_
          refine lv_iload_n hx hb dX2_standingPegs_4 rfl (lv_at hl 0 rfl) ?_
          refine lv_aload_n hx hb dX2_standingPegs_5 rfl (lv_at hl 2 rfl) ?_
          refine va_get (D := D) (ci := 2) (v := .ref qp) (C := RX2) (T := TX2) (N := 7) hx hb hts hi_X2_standingPegs_2 hown hK.1 hP 0 rfl rfl 1 (by decide) (hts _ hf_X2_standingPegs_17) (fun _ h9 => h9) rfl dX2_standingPegs_6 ?_
          refine va_alen (v := nI 4) hx hb hK.1 hP 1 1 rfl rfl rfl dX2_standingPegs_9 ?_
          refine lv_icmp_ge (tgt := 34) hx hb dX2_standingPegs_10 (by decide) (fun c => ?_) (fun c => absurd c (by decide))
          refine lv_iload_n hx hb dX2_standingPegs_34 rfl (lv_at hl 1 rfl) ?_
          exact pw_piret hx hb hr (rfl) hlocks dX2_standingPegs_35 (by rw [if_pos c_1, if_pos c_2, if_neg c_3, if_pos c_5])
        · have _h := c_5
          refine lv_iinc (v := nI 2) (lv' := [(1, .int (nI 2)), (2, .int (nI 3)), (0, .ref h)]) hx hb dX2_standingPegs_25 hl (k := 1) rfl (pw_inc _ 1) (by decide) rfl (fun ls hl => ?_)
          refine lv_iinc (v := nI 4) (lv' := [(2, .int (nI 4)), (1, .int (nI 2)), (0, .ref h)]) hx hb dX2_standingPegs_28 hl (k := 1) rfl (pw_inc _ 1) (by decide) rfl (fun ls hl => ?_)
          refine lv_goto (tgt := 4) hx hb dX2_standingPegs_31 (by decide) ?_
          refine lv_iload_n hx hb dX2_standingPegs_4 rfl (lv_at hl 0 rfl) ?_
          refine lv_aload_n hx hb dX2_standingPegs_5 rfl (lv_at hl 2 rfl) ?_
          refine va_get (D := D) (ci := 2) (v := .ref qp) (C := RX2) (T := TX2) (N := 7) hx hb hts hi_X2_standingPegs_2 hown hK.1 hP 0 rfl rfl 1 (by decide) (hts _ hf_X2_standingPegs_17) (fun _ h9 => h9) rfl dX2_standingPegs_6 ?_
          refine va_alen (v := nI 4) hx hb hK.1 hP 1 1 rfl rfl rfl dX2_standingPegs_9 ?_
          refine lv_icmp_ge (tgt := 34) hx hb dX2_standingPegs_10 (by decide) (fun c => ?_) (fun c => absurd c (by decide))
          refine lv_iload_n hx hb dX2_standingPegs_34 rfl (lv_at hl 1 rfl) ?_
          exact pw_piret hx hb hr (rfl) hlocks dX2_standingPegs_35 (by rw [if_pos c_1, if_pos c_2, if_neg c_3, if_neg c_5])
    · have _h := c_2
      refine lv_iinc (v := nI 1) (lv' := [(1, .int (nI 1)), (2, .int (nI 1)), (0, .ref h)]) hx hb dX2_standingPegs_25 hl (k := 1) rfl (pw_inc _ 1) (by decide) rfl (fun ls hl => ?_)
      refine lv_iinc (v := nI 2) (lv' := [(2, .int (nI 2)), (1, .int (nI 1)), (0, .ref h)]) hx hb dX2_standingPegs_28 hl (k := 1) rfl (pw_inc _ 1) (by decide) rfl (fun ls hl => ?_)
      refine lv_goto (tgt := 4) hx hb dX2_standingPegs_31 (by decide) ?_
      refine lv_iload_n hx hb dX2_standingPegs_4 rfl (lv_at hl 0 rfl) ?_
      refine lv_aload_n hx hb dX2_standingPegs_5 rfl (lv_at hl 2 rfl) ?_
      refine va_get (D := D) (ci := 2) (v := .ref qp) (C := RX2) (T := TX2) (N := 7) hx hb hts hi_X2_standingPegs_2 hown hK.1 hP 0 rfl rfl 1 (by decide) (hts _ hf_X2_standingPegs_17) (fun _ h9 => h9) rfl dX2_standingPegs_6 ?_
      refine va_alen (v := nI 4) hx hb hK.1 hP 1 1 rfl rfl rfl dX2_standingPegs_9 ?_
      refine lv_icmp_ge (tgt := 34) hx hb dX2_standingPegs_10 (by decide) (fun c => absurd c (by decide)) (fun c => ?_)
      refine lv_aload_n hx hb dX2_standingPegs_13 rfl (lv_at hl 2 rfl) ?_
      refine va_get (D := D) (ci := 2) (v := .ref qp) (C := RX2) (T := TX2) (N := 7) hx hb hts hi_X2_standingPegs_2 hown hK.1 hP 0 rfl rfl 1 (by decide) (hts _ hf_X2_standingPegs_17) (fun _ h9 => h9) rfl dX2_standingPegs_14 ?_
      refine lv_iload_n hx hb dX2_standingPegs_17 rfl (lv_at hl 0 rfl) ?_
      refine pw_aldq hx hb hK.1 hP 1 1 rfl rfl (by decide) (by omega) dX2_standingPegs_18 ?_
      refine va_getN (D := D) (ci := 0) (v := va_rf (pr2)) (C := RX0) (T := TX0) (N := 6) hx hb hts hi_X2_standingPegs_0 hown hK.1 hP 4 rfl rfl 0 (by decide) (va_Nw.use rfl hNW.2.1) (fun _ h9 => h9) rfl dX2_standingPegs_19 ?_
      refine pw_ifnull (tgt := 28) hx hb dX2_standingPegs_22 (by decide) (fun c_6 => ?_) (fun c_6 => ?_)
      · have _h := c_6
        refine lv_iinc (v := nI 3) (lv' := [(2, .int (nI 3)), (1, .int (nI 1)), (0, .ref h)]) hx hb dX2_standingPegs_28 hl (k := 0) rfl (pw_inc _ 1) (by decide) rfl (fun ls hl => ?_)
        refine lv_goto (tgt := 4) hx hb dX2_standingPegs_31 (by decide) ?_
        refine lv_iload_n hx hb dX2_standingPegs_4 rfl (lv_at hl 0 rfl) ?_
        refine lv_aload_n hx hb dX2_standingPegs_5 rfl (lv_at hl 2 rfl) ?_
        refine va_get (D := D) (ci := 2) (v := .ref qp) (C := RX2) (T := TX2) (N := 7) hx hb hts hi_X2_standingPegs_2 hown hK.1 hP 0 rfl rfl 1 (by decide) (hts _ hf_X2_standingPegs_17) (fun _ h9 => h9) rfl dX2_standingPegs_6 ?_
        refine va_alen (v := nI 4) hx hb hK.1 hP 1 1 rfl rfl rfl dX2_standingPegs_9 ?_
        refine lv_icmp_ge (tgt := 34) hx hb dX2_standingPegs_10 (by decide) (fun c => absurd c (by decide)) (fun c => ?_)
        refine lv_aload_n hx hb dX2_standingPegs_13 rfl (lv_at hl 2 rfl) ?_
        refine va_get (D := D) (ci := 2) (v := .ref qp) (C := RX2) (T := TX2) (N := 7) hx hb hts hi_X2_standingPegs_2 hown hK.1 hP 0 rfl rfl 1 (by decide) (hts _ hf_X2_standingPegs_17) (fun _ h9 => h9) rfl dX2_standingPegs_14 ?_
        refine lv_iload_n hx hb dX2_standingPegs_17 rfl (lv_at hl 0 rfl) ?_
        refine pw_aldq hx hb hK.1 hP 1 1 rfl rfl (by decide) (by omega) dX2_standingPegs_18 ?_
        refine va_getN (D := D) (ci := 0) (v := va_rf (pr3)) (C := RX0) (T := TX0) (N := 6) hx hb hts hi_X2_standingPegs_0 hown hK.1 hP 5 rfl rfl 0 (by decide) (va_Nw.use rfl hNW.2.1) (fun _ h9 => h9) rfl dX2_standingPegs_19 ?_
        refine pw_ifnull (tgt := 28) hx hb dX2_standingPegs_22 (by decide) (fun c_7 => ?_) (fun c_7 => ?_)
        · have _h := c_7
          refine lv_iinc (v := nI 4) (lv' := [(2, .int (nI 4)), (1, .int (nI 1)), (0, .ref h)]) hx hb dX2_standingPegs_28 hl (k := 0) rfl (pw_inc _ 1) (by decide) rfl (fun ls hl => ?_)
          refine lv_goto (tgt := 4) hx hb dX2_standingPegs_31 (by decide) ?_
          refine lv_iload_n hx hb dX2_standingPegs_4 rfl (lv_at hl 0 rfl) ?_
          refine lv_aload_n hx hb dX2_standingPegs_5 rfl (lv_at hl 2 rfl) ?_
          refine va_get (D := D) (ci := 2) (v := .ref qp) (C := RX2) (T := TX2) (N := 7) hx hb hts hi_X2_standingPegs_2 hown hK.1 hP 0 rfl rfl 1 (by decide) (hts _ hf_X2_standingPegs_17) (fun _ h9 => h9) rfl dX2_standingPegs_6 ?_
          refine va_alen (v := nI 4) hx hb hK.1 hP 1 1 rfl rfl rfl dX2_standingPegs_9 ?_
          refine lv_icmp_ge (tgt := 34) hx hb dX2_standingPegs_10 (by decide) (fun c => ?_) (fun c => absurd c (by decide))
          refine lv_iload_n hx hb dX2_standingPegs_34 rfl (lv_at hl 1 rfl) ?_
          exact pw_piret hx hb hr (rfl) hlocks dX2_standingPegs_35 (by rw [if_pos c_1, if_neg c_2, if_pos c_6, if_pos c_7])
        · have _h := c_7
          refine lv_iinc (v := nI 2) (lv' := [(1, .int (nI 2)), (2, .int (nI 3)), (0, .ref h)]) hx hb dX2_standingPegs_25 hl (k := 1) rfl (pw_inc _ 1) (by decide) rfl (fun ls hl => ?_)
          refine lv_iinc (v := nI 4) (lv' := [(2, .int (nI 4)), (1, .int (nI 2)), (0, .ref h)]) hx hb dX2_standingPegs_28 hl (k := 1) rfl (pw_inc _ 1) (by decide) rfl (fun ls hl => ?_)
          refine lv_goto (tgt := 4) hx hb dX2_standingPegs_31 (by decide) ?_
          refine lv_iload_n hx hb dX2_standingPegs_4 rfl (lv_at hl 0 rfl) ?_
          refine lv_aload_n hx hb dX2_standingPegs_5 rfl (lv_at hl 2 rfl) ?_
          refine va_get (D := D) (ci := 2) (v := .ref qp) (C := RX2) (T := TX2) (N := 7) hx hb hts hi_X2_standingPegs_2 hown hK.1 hP 0 rfl rfl 1 (by decide) (hts _ hf_X2_standingPegs_17) (fun _ h9 => h9) rfl dX2_standingPegs_6 ?_
          refine va_alen (v := nI 4) hx hb hK.1 hP 1 1 rfl rfl rfl dX2_standingPegs_9 ?_
          refine lv_icmp_ge (tgt := 34) hx hb dX2_standingPegs_10 (by decide) (fun c => ?_) (fun c => absurd c (by decide))
          refine lv_iload_n hx hb dX2_standingPegs_34 rfl (lv_at hl 1 rfl) ?_
          exact pw_piret hx hb hr (rfl) hlocks dX2_standingPegs_35 (by rw [if_pos c_1, if_neg c_2, if_pos c_6, if_neg c_7])
      · have _h := c_6
        refine lv_iinc (v := nI 2) (lv' := [(1, .int (nI 2)), (2, .int (nI 2)), (0, .ref h)]) hx hb dX2_standingPegs_25 hl (k := 1) rfl (pw_inc _ 1) (by decide) rfl (fun ls hl => ?_)
        refine lv_iinc (v := nI 3) (lv' := [(2, .int (nI 3)), (1, .int (nI 2)), (0, .ref h)]) hx hb dX2_standingPegs_28 hl (k := 1) rfl (pw_inc _ 1) (by decide) rfl (fun ls hl => ?_)
        refine lv_goto (tgt := 4) hx hb dX2_standingPegs_31 (by decide) ?_
        refine lv_iload_n hx hb dX2_standingPegs_4 rfl (lv_at hl 0 rfl) ?_
        refine lv_aload_n hx hb dX2_standingPegs_5 rfl (lv_at hl 2 rfl) ?_
        refine va_get (D := D) (ci := 2) (v := .ref qp) (C := RX2) (T := TX2) (N := 7) hx hb hts hi_X2_standingPegs_2 hown hK.1 hP 0 rfl rfl 1 (by decide) (hts _ hf_X2_standingPegs_17) (fun _ h9 => h9) rfl dX2_standingPegs_6 ?_
        refine va_alen (v := nI 4) hx hb hK.1 hP 1 1 rfl rfl rfl dX2_standingPegs_9 ?_
        refine lv_icmp_ge (tgt := 34) hx hb dX2_standingPegs_10 (by decide) (fun c => absurd c (by decide)) (fun c => ?_)
        refine lv_aload_n hx hb dX2_standingPegs_13 rfl (lv_at hl 2 rfl) ?_
        refine va_get (D := D) (ci := 2) (v := .ref qp) (C := RX2) (T := TX2) (N := 7) hx hb hts hi_X2_standingPegs_2 hown hK.1 hP 0 rfl rfl 1 (by decide) (hts _ hf_X2_standingPegs_17) (fun _ h9 => h9) rfl dX2_standingPegs_14 ?_
        refine lv_iload_n hx hb dX2_standingPegs_17 rfl (lv_at hl 0 rfl) ?_
        refine pw_aldq hx hb hK.1 hP 1 1 rfl rfl (by decide) (by omega) dX2_standingPegs_18 ?_
        refine va_getN (D := D) (ci := 0) (v := va_rf (pr3)) (C := RX0) (T := TX0) (N := 6) hx hb hts hi_X2_standingPegs_0 hown hK.1 hP 5 rfl rfl 0 (by decide) (va_Nw.use rfl hNW.2.1) (fun _ h9 => h9) rfl dX2_standingPegs_19 ?_
        refine pw_ifnull (tgt := 28) hx hb dX2_standingPegs_22 (by decide) (fun c_8 => ?_) (fun c_8 => ?_)
        · have _h := c_8
          refine lv_iinc (v := nI 4) (lv' := [(2, .int (nI 4)), (1, .int (nI 2)), (0, .ref h)]) hx hb dX2_standingPegs_28 hl (k := 0) rfl (pw_inc _ 1) (by decide) rfl (fun ls hl => ?_)
          refine lv_goto (tgt := 4) hx hb dX2_standingPegs_31 (by decide) ?_
          refine lv_iload_n hx hb dX2_standingPegs_4 rfl (lv_at hl 0 rfl) ?_
          refine lv_aload_n hx hb dX2_standingPegs_5 rfl (lv_at hl 2 rfl) ?_
          refine va_get (D := D) (ci := 2) (v := .ref qp) (C := RX2) (T := TX2) (N := 7) hx hb hts hi_X2_standingPegs_2 hown hK.1 hP 0 rfl rfl 1 (by decide) (hts _ hf_X2_standingPegs_17) (fun _ h9 => h9) rfl dX2_standingPegs_6 ?_
          refine va_alen (v := nI 4) hx hb hK.1 hP 1 1 rfl rfl rfl dX2_standingPegs_9 ?_
          refine lv_icmp_ge (tgt := 34) hx hb dX2_standingPegs_10 (by decide) (fun c => ?_) (fun c => absurd c (by decide))
          refine lv_iload_n hx hb dX2_standingPegs_34 rfl (lv_at hl 1 rfl) ?_
          exact pw_piret hx hb hr (rfl) hlocks dX2_standingPegs_35 (by rw [if_pos c_1, if_neg c_2, if_neg c_6, if_pos c_8])
        · have _h := c_8
          refine lv_iinc (v := nI 3) (lv' := [(1, .int (nI 3)), (2, .int (nI 3)), (0, .ref h)]) hx hb dX2_standingPegs_25 hl (k := 1) rfl (pw_inc _ 1) (by decide) rfl (fun ls hl => ?_)
          refine lv_iinc (v := nI 4) (lv' := [(2, .int (nI 4)), (1, .int (nI 3)), (0, .ref h)]) hx hb dX2_standingPegs_28 hl (k := 1) rfl (pw_inc _ 1) (by decide) rfl (fun ls hl => ?_)
          refine lv_goto (tgt := 4) hx hb dX2_standingPegs_31 (by decide) ?_
          refine lv_iload_n hx hb dX2_standingPegs_4 rfl (lv_at hl 0 rfl) ?_
          refine lv_aload_n hx hb dX2_standingPegs_5 rfl (lv_at hl 2 rfl) ?_
          refine va_get (D := D) (ci := 2) (v := .ref qp) (C := RX2) (T := TX2) (N := 7) hx hb hts hi_X2_standingPegs_2 hown hK.1 hP 0 rfl rfl 1 (by decide) (hts _ hf_X2_standingPegs_17) (fun _ h9 => h9) rfl dX2_standingPegs_6 ?_
          refine va_alen (v := nI 4) hx hb hK.1 hP 1 1 rfl rfl rfl dX2_standingPegs_9 ?_
          refine lv_icmp_ge (tgt := 34) hx hb dX2_standingPegs_10 (by decide) (fun c => ?_) (fun c => absurd c (by decide))
          refine lv_iload_n hx hb dX2_standingPegs_34 rfl (lv_at hl 1 rfl) ?_
          exact pw_piret hx hb hr (rfl) hlocks dX2_standingPegs_35 (by rw [if_pos c_1, if_neg c_2, if_neg c_6, if_neg c_8])
  · have _h := c_1
    refine lv_iinc (v := nI 1) (lv' := [(1, .int (nI 1)), (2, .int (nI 0)), (0, .ref h)]) hx hb dX2_standingPegs_25 hl (k := 1) rfl (pw_inc _ 1) (by decide) rfl (fun ls hl => ?_)
    refine lv_iinc (v := nI 1) (lv' := [(2, .int (nI 1)), (1, .int (nI 1)), (0, .ref h)]) hx hb dX2_standingPegs_28 hl (k := 1) rfl (pw_inc _ 1) (by decide) rfl (fun ls hl => ?_)
    refine lv_goto (tgt := 4) hx hb dX2_standingPegs_31 (by decide) ?_
    refine lv_iload_n hx hb dX2_standingPegs_4 rfl (lv_at hl 0 rfl) ?_
    refine lv_aload_n hx hb dX2_standingPegs_5 rfl (lv_at hl 2 rfl) ?_
    refine va_get (D := D) (ci := 2) (v := .ref qp) (C := RX2) (T := TX2) (N := 7) hx hb hts hi_X2_standingPegs_2 hown hK.1 hP 0 rfl rfl 1 (by decide) (hts _ hf_X2_standingPegs_17) (fun _ h9 => h9) rfl dX2_standingPegs_6 ?_
    refine va_alen (v := nI 4) hx hb hK.1 hP 1 1 rfl rfl rfl dX2_standingPegs_9 ?_
    refine lv_icmp_ge (tgt := 34) hx hb dX2_standingPegs_10 (by decide) (fun c => absurd c (by decide)) (fun c => ?_)
    refine lv_aload_n hx hb dX2_standingPegs_13 rfl (lv_at hl 2 rfl) ?_
    refine va_get (D := D) (ci := 2) (v := .ref qp) (C := RX2) (T := TX2) (N := 7) hx hb hts hi_X2_standingPegs_2 hown hK.1 hP 0 rfl rfl 1 (by decide) (hts _ hf_X2_standingPegs_17) (fun _ h9 => h9) rfl dX2_standingPegs_14 ?_
    refine lv_iload_n hx hb dX2_standingPegs_17 rfl (lv_at hl 0 rfl) ?_
    refine pw_aldq hx hb hK.1 hP 1 1 rfl rfl (by decide) (by omega) dX2_standingPegs_18 ?_
    refine va_getN (D := D) (ci := 0) (v := va_rf (pr1)) (C := RX0) (T := TX0) (N := 6) hx hb hts hi_X2_standingPegs_0 hown hK.1 hP 3 rfl rfl 0 (by decide) (va_Nw.use rfl hNW.2.1) (fun _ h9 => h9) rfl dX2_standingPegs_19 ?_
    refine pw_ifnull (tgt := 28) hx hb dX2_standingPegs_22 (by decide) (fun c_9 => ?_) (fun c_9 => ?_)
    · have _h := c_9
      refine lv_iinc (v := nI 2) (lv' := [(2, .int (nI 2)), (1, .int (nI 1)), (0, .ref h)]) hx hb dX2_standingPegs_28 hl (k := 0) rfl (pw_inc _ 1) (by decide) rfl (fun ls hl => ?_)
      refine lv_goto (tgt := 4) hx hb dX2_standingPegs_31 (by decide) ?_
      refine lv_iload_n hx hb dX2_standingPegs_4 rfl (lv_at hl 0 rfl) ?_
      refine lv_aload_n hx hb dX2_standingPegs_5 rfl (lv_at hl 2 rfl) ?_
      refine va_get (D := D) (ci := 2) (v := .ref qp) (C := RX2) (T := TX2) (N := 7) hx hb hts hi_X2_standingPegs_2 hown hK.1 hP 0 rfl rfl 1 (by decide) (hts _ hf_X2_standingPegs_17) (fun _ h9 => h9) rfl dX2_standingPegs_6 ?_
      refine va_alen (v := nI 4) hx hb hK.1 hP 1 1 rfl rfl rfl dX2_standingPegs_9 ?_
      refine lv_icmp_ge (tgt := 34) hx hb dX2_standingPegs_10 (by decide) (fun c => absurd c (by decide)) (fun c => ?_)
      refine lv_aload_n hx hb dX2_standingPegs_13 rfl (lv_at hl 2 rfl) ?_
      refine va_get (D := D) (ci := 2) (v := .ref qp) (C := RX2) (T := TX2) (N := 7) hx hb hts hi_X2_standingPegs_2 hown hK.1 hP 0 rfl rfl 1 (by decide) (hts _ hf_X2_standingPegs_17) (fun _ h9 => h9) rfl dX2_standingPegs_14 ?_
      refine lv_iload_n hx hb dX2_standingPegs_17 rfl (lv_at hl 0 rfl) ?_
      refine pw_aldq hx hb hK.1 hP 1 1 rfl rfl (by decide) (by omega) dX2_standingPegs_18 ?_
      refine va_getN (D := D) (ci := 0) (v := va_rf (pr2)) (C := RX0) (T := TX0) (N := 6) hx hb hts hi_X2_standingPegs_0 hown hK.1 hP 4 rfl rfl 0 (by decide) (va_Nw.use rfl hNW.2.1) (fun _ h9 => h9) rfl dX2_standingPegs_19 ?_
      refine pw_ifnull (tgt := 28) hx hb dX2_standingPegs_22 (by decide) (fun c_10 => ?_) (fun c_10 => ?_)
      · have _h := c_10
        refine lv_iinc (v := nI 3) (lv' := [(2, .int (nI 3)), (1, .int (nI 1)), (0, .ref h)]) hx hb dX2_standingPegs_28 hl (k := 0) rfl (pw_inc _ 1) (by decide) rfl (fun ls hl => ?_)
        refine lv_goto (tgt := 4) hx hb dX2_standingPegs_31 (by decide) ?_
        refine lv_iload_n hx hb dX2_standingPegs_4 rfl (lv_at hl 0 rfl) ?_
        refine lv_aload_n hx hb dX2_standingPegs_5 rfl (lv_at hl 2 rfl) ?_
        refine va_get (D := D) (ci := 2) (v := .ref qp) (C := RX2) (T := TX2) (N := 7) hx hb hts hi_X2_standingPegs_2 hown hK.1 hP 0 rfl rfl 1 (by decide) (hts _ hf_X2_standingPegs_17) (fun _ h9 => h9) rfl dX2_standingPegs_6 ?_
        refine va_alen (v := nI 4) hx hb hK.1 hP 1 1 rfl rfl rfl dX2_standingPegs_9 ?_
        refine lv_icmp_ge (tgt := 34) hx hb dX2_standingPegs_10 (by decide) (fun c => absurd c (by decide)) (fun c => ?_)
        refine lv_aload_n hx hb dX2_standingPegs_13 rfl (lv_at hl 2 rfl) ?_
        refine va_get (D := D) (ci := 2) (v := .ref qp) (C := RX2) (T := TX2) (N := 7) hx hb hts hi_X2_standingPegs_2 hown hK.1 hP 0 rfl rfl 1 (by decide) (hts _ hf_X2_standingPegs_17) (fun _ h9 => h9) rfl dX2_standingPegs_14 ?_
        refine lv_iload_n hx hb dX2_standingPegs_17 rfl (lv_at hl 0 rfl) ?_
        refine pw_aldq hx hb hK.1 hP 1 1 rfl rfl (by decide) (by omega) dX2_standingPegs_18 ?_
        refine va_getN (D := D) (ci := 0) (v := va_rf (pr3)) (C := RX0) (T := TX0) (N := 6) hx hb hts hi_X2_standingPegs_0 hown hK.1 hP 5 rfl rfl 0 (by decide) (va_Nw.use rfl hNW.2.1) (fun _ h9 => h9) rfl dX2_standingPegs_19 ?_
        refine pw_ifnull (tgt := 28) hx hb dX2_standingPegs_22 (by decide) (fun c_11 => ?_) (fun c_11 => ?_)
        · have _h := c_11
          refine lv_iinc (v := nI 4) (lv' := [(2, .int (nI 4)), (1, .int (nI 1)), (0, .ref h)]) hx hb dX2_standingPegs_28 hl (k := 0) rfl (pw_inc _ 1) (by decide) rfl (fun ls hl => ?_)
          refine lv_goto (tgt := 4) hx hb dX2_standingPegs_31 (by decide) ?_
          refine lv_iload_n hx hb dX2_standingPegs_4 rfl (lv_at hl 0 rfl) ?_
          refine lv_aload_n hx hb dX2_standingPegs_5 rfl (lv_at hl 2 rfl) ?_
          refine va_get (D := D) (ci := 2) (v := .ref qp) (C := RX2) (T := TX2) (N := 7) hx hb hts hi_X2_standingPegs_2 hown hK.1 hP 0 rfl rfl 1 (by decide) (hts _ hf_X2_standingPegs_17) (fun _ h9 => h9) rfl dX2_standingPegs_6 ?_
          refine va_alen (v := nI 4) hx hb hK.1 hP 1 1 rfl rfl rfl dX2_standingPegs_9 ?_
          refine lv_icmp_ge (tgt := 34) hx hb dX2_standingPegs_10 (by decide) (fun c => ?_) (fun c => absurd c (by decide))
          refine lv_iload_n hx hb dX2_standingPegs_34 rfl (lv_at hl 1 rfl) ?_
          exact pw_piret hx hb hr (rfl) hlocks dX2_standingPegs_35 (by rw [if_neg c_1, if_pos c_9, if_pos c_10, if_pos c_11])
        · have _h := c_11
          refine lv_iinc (v := nI 2) (lv' := [(1, .int (nI 2)), (2, .int (nI 3)), (0, .ref h)]) hx hb dX2_standingPegs_25 hl (k := 1) rfl (pw_inc _ 1) (by decide) rfl (fun ls hl => ?_)
          refine lv_iinc (v := nI 4) (lv' := [(2, .int (nI 4)), (1, .int (nI 2)), (0, .ref h)]) hx hb dX2_standingPegs_28 hl (k := 1) rfl (pw_inc _ 1) (by decide) rfl (fun ls hl => ?_)
          refine lv_goto (tgt := 4) hx hb dX2_standingPegs_31 (by decide) ?_
          refine lv_iload_n hx hb dX2_standingPegs_4 rfl (lv_at hl 0 rfl) ?_
          refine lv_aload_n hx hb dX2_standingPegs_5 rfl (lv_at hl 2 rfl) ?_
          refine va_get (D := D) (ci := 2) (v := .ref qp) (C := RX2) (T := TX2) (N := 7) hx hb hts hi_X2_standingPegs_2 hown hK.1 hP 0 rfl rfl 1 (by decide) (hts _ hf_X2_standingPegs_17) (fun _ h9 => h9) rfl dX2_standingPegs_6 ?_
          refine va_alen (v := nI 4) hx hb hK.1 hP 1 1 rfl rfl rfl dX2_standingPegs_9 ?_
          refine lv_icmp_ge (tgt := 34) hx hb dX2_standingPegs_10 (by decide) (fun c => ?_) (fun c => absurd c (by decide))
          refine lv_iload_n hx hb dX2_standingPegs_34 rfl (lv_at hl 1 rfl) ?_
          exact pw_piret hx hb hr (rfl) hlocks dX2_standingPegs_35 (by rw [if_neg c_1, if_pos c_9, if_pos c_10, if_neg c_11])
      · have _h := c_10
        refine lv_iinc (v := nI 2) (lv' := [(1, .int (nI 2)), (2, .int (nI 2)), (0, .ref h)]) hx hb dX2_standingPegs_25 hl (k := 1) rfl (pw_inc _ 1) (by decide) rfl (fun ls hl => ?_)
        refine lv_iinc (v := nI 3) (lv' := [(2, .int (nI 3)), (1, .int (nI 2)), (0, .ref h)]) hx hb dX2_standingPegs_28 hl (k := 1) rfl (pw_inc _ 1) (by decide) rfl (fun ls hl => ?_)
        refine lv_goto (tgt := 4) hx hb dX2_standingPegs_31 (by decide) ?_
        refine lv_iload_n hx hb dX2_standingPegs_4 rfl (lv_at hl 0 rfl) ?_
        refine lv_aload_n hx hb dX2_standingPegs_5 rfl (lv_at hl 2 rfl) ?_
        refine va_get (D := D) (ci := 2) (v := .ref qp) (C := RX2) (T := TX2) (N := 7) hx hb hts hi_X2_standingPegs_2 hown hK.1 hP 0 rfl rfl 1 (by decide) (hts _ hf_X2_standingPegs_17) (fun _ h9 => h9) rfl dX2_standingPegs_6 ?_
        refine va_alen (v := nI 4) hx hb hK.1 hP 1 1 rfl rfl rfl dX2_standingPegs_9 ?_
        refine lv_icmp_ge (tgt := 34) hx hb dX2_standingPegs_10 (by decide) (fun c => absurd c (by decide)) (fun c => ?_)
        refine lv_aload_n hx hb dX2_standingPegs_13 rfl (lv_at hl 2 rfl) ?_
        refine va_get (D := D) (ci := 2) (v := .ref qp) (C := RX2) (T := TX2) (N := 7) hx hb hts hi_X2_standingPegs_2 hown hK.1 hP 0 rfl rfl 1 (by decide) (hts _ hf_X2_standingPegs_17) (fun _ h9 => h9) rfl dX2_standingPegs_14 ?_
        refine lv_iload_n hx hb dX2_standingPegs_17 rfl (lv_at hl 0 rfl) ?_
        refine pw_aldq hx hb hK.1 hP 1 1 rfl rfl (by decide) (by omega) dX2_standingPegs_18 ?_
        refine va_getN (D := D) (ci := 0) (v := va_rf (pr3)) (C := RX0) (T := TX0) (N := 6) hx hb hts hi_X2_standingPegs_0 hown hK.1 hP 5 rfl rfl 0 (by decide) (va_Nw.use rfl hNW.2.1) (fun _ h9 => h9) rfl dX2_standingPegs_19 ?_
        refine pw_ifnull (tgt := 28) hx hb dX2_standingPegs_22 (by decide) (fun c_12 => ?_) (fun c_12 => ?_)
        · have _h := c_12
          refine lv_iinc (v := nI 4) (lv' := [(2, .int (nI 4)), (1, .int (nI 2)), (0, .ref h)]) hx hb dX2_standingPegs_28 hl (k := 0) rfl (pw_inc _ 1) (by decide) rfl (fun ls hl => ?_)
          refine lv_goto (tgt := 4) hx hb dX2_standingPegs_31 (by decide) ?_
          refine lv_iload_n hx hb dX2_standingPegs_4 rfl (lv_at hl 0 rfl) ?_
          refine lv_aload_n hx hb dX2_standingPegs_5 rfl (lv_at hl 2 rfl) ?_
          refine va_get (D := D) (ci := 2) (v := .ref qp) (C := RX2) (T := TX2) (N := 7) hx hb hts hi_X2_standingPegs_2 hown hK.1 hP 0 rfl rfl 1 (by decide) (hts _ hf_X2_standingPegs_17) (fun _ h9 => h9) rfl dX2_standingPegs_6 ?_
          refine va_alen (v := nI 4) hx hb hK.1 hP 1 1 rfl rfl rfl dX2_standingPegs_9 ?_
          refine lv_icmp_ge (tgt := 34) hx hb dX2_standingPegs_10 (by decide) (fun c => ?_) (fun c => absurd c (by decide))
          refine lv_iload_n hx hb dX2_standingPegs_34 rfl (lv_at hl 1 rfl) ?_
          exact pw_piret hx hb hr (rfl) hlocks dX2_standingPegs_35 (by rw [if_neg c_1, if_pos c_9, if_neg c_10, if_pos c_12])
        · have _h := c_12
          refine lv_iinc (v := nI 3) (lv' := [(1, .int (nI 3)), (2, .int (nI 3)), (0, .ref h)]) hx hb dX2_standingPegs_25 hl (k := 1) rfl (pw_inc _ 1) (by decide) rfl (fun ls hl => ?_)
          refine lv_iinc (v := nI 4) (lv' := [(2, .int (nI 4)), (1, .int (nI 3)), (0, .ref h)]) hx hb dX2_standingPegs_28 hl (k := 1) rfl (pw_inc _ 1) (by decide) rfl (fun ls hl => ?_)
          refine lv_goto (tgt := 4) hx hb dX2_standingPegs_31 (by decide) ?_
          refine lv_iload_n hx hb dX2_standingPegs_4 rfl (lv_at hl 0 rfl) ?_
          refine lv_aload_n hx hb dX2_standingPegs_5 rfl (lv_at hl 2 rfl) ?_
          refine va_get (D := D) (ci := 2) (v := .ref qp) (C := RX2) (T := TX2) (N := 7) hx hb hts hi_X2_standingPegs_2 hown hK.1 hP 0 rfl rfl 1 (by decide) (hts _ hf_X2_standingPegs_17) (fun _ h9 => h9) rfl dX2_standingPegs_6 ?_
          refine va_alen (v := nI 4) hx hb hK.1 hP 1 1 rfl rfl rfl dX2_standingPegs_9 ?_
          refine lv_icmp_ge (tgt := 34) hx hb dX2_standingPegs_10 (by decide) (fun c => ?_) (fun c => absurd c (by decide))
          refine lv_iload_n hx hb dX2_standingPegs_34 rfl (lv_at hl 1 rfl) ?_
          exact pw_piret hx hb hr (rfl) hlocks dX2_standingPegs_35 (by rw [if_neg c_1, if_pos c_9, if_neg c_10, if_neg c_12])
    · have _h := c_9
      refine lv_iinc (v := nI 2) (lv' := [(1, .int (nI 2)), (2, .int (nI 1)), (0, .ref h)]) hx hb dX2_standingPegs_25 hl (k := 1) rfl (pw_inc _ 1) (by decide) rfl (fun ls hl => ?_)
      refine lv_iinc (v := nI 2) (lv' := [(2, .int (nI 2)), (1, .int (nI 2)), (0, .ref h)]) hx hb dX2_standingPegs_28 hl (k := 1) rfl (pw_inc _ 1) (by decide) rfl (fun ls hl => ?_)
      refine lv_goto (tgt := 4) hx hb dX2_standingPegs_31 (by decide) ?_
      refine lv_iload_n hx hb dX2_standingPegs_4 rfl (lv_at hl 0 rfl) ?_
      refine lv_aload_n hx hb dX2_standingPegs_5 rfl (lv_at hl 2 rfl) ?_
      refine va_get (D := D) (ci := 2) (v := .ref qp) (C := RX2) (T := TX2) (N := 7) hx hb hts hi_X2_standingPegs_2 hown hK.1 hP 0 rfl rfl 1 (by decide) (hts _ hf_X2_standingPegs_17) (fun _ h9 => h9) rfl dX2_standingPegs_6 ?_
      refine va_alen (v := nI 4) hx hb hK.1 hP 1 1 rfl rfl rfl dX2_standingPegs_9 ?_
      refine lv_icmp_ge (tgt := 34) hx hb dX2_standingPegs_10 (by decide) (fun c => absurd c (by decide)) (fun c => ?_)
      refine lv_aload_n hx hb dX2_standingPegs_13 rfl (lv_at hl 2 rfl) ?_
      refine va_get (D := D) (ci := 2) (v := .ref qp) (C := RX2) (T := TX2) (N := 7) hx hb hts hi_X2_standingPegs_2 hown hK.1 hP 0 rfl rfl 1 (by decide) (hts _ hf_X2_standingPegs_17) (fun _ h9 => h9) rfl dX2_standingPegs_14 ?_
      refine lv_iload_n hx hb dX2_standingPegs_17 rfl (lv_at hl 0 rfl) ?_
      refine pw_aldq hx hb hK.1 hP 1 1 rfl rfl (by decide) (by omega) dX2_standingPegs_18 ?_
      refine va_getN (D := D) (ci := 0) (v := va_rf (pr2)) (C := RX0) (T := TX0) (N := 6) hx hb hts hi_X2_standingPegs_0 hown hK.1 hP 4 rfl rfl 0 (by decide) (va_Nw.use rfl hNW.2.1) (fun _ h9 => h9) rfl dX2_standingPegs_19 ?_
      refine pw_ifnull (tgt := 28) hx hb dX2_standingPegs_22 (by decide) (fun c_13 => ?_) (fun c_13 => ?_)
      · have _h := c_13
        refine lv_iinc (v := nI 3) (lv' := [(2, .int (nI 3)), (1, .int (nI 2)), (0, .ref h)]) hx hb dX2_standingPegs_28 hl (k := 0) rfl (pw_inc _ 1) (by decide) rfl (fun ls hl => ?_)
        refine lv_goto (tgt := 4) hx hb dX2_standingPegs_31 (by decide) ?_
        refine lv_iload_n hx hb dX2_standingPegs_4 rfl (lv_at hl 0 rfl) ?_
        refine lv_aload_n hx hb dX2_standingPegs_5 rfl (lv_at hl 2 rfl) ?_
        refine va_get (D := D) (ci := 2) (v := .ref qp) (C := RX2) (T := TX2) (N := 7) hx hb hts hi_X2_standingPegs_2 hown hK.1 hP 0 rfl rfl 1 (by decide) (hts _ hf_X2_standingPegs_17) (fun _ h9 => h9) rfl dX2_standingPegs_6 ?_
        refine va_alen (v := nI 4) hx hb hK.1 hP 1 1 rfl rfl rfl dX2_standingPegs_9 ?_
        refine lv_icmp_ge (tgt := 34) hx hb dX2_standingPegs_10 (by decide) (fun c => absurd c (by decide)) (fun c => ?_)
        refine lv_aload_n hx hb dX2_standingPegs_13 rfl (lv_at hl 2 rfl) ?_
        refine va_get (D := D) (ci := 2) (v := .ref qp) (C := RX2) (T := TX2) (N := 7) hx hb hts hi_X2_standingPegs_2 hown hK.1 hP 0 rfl rfl 1 (by decide) (hts _ hf_X2_standingPegs_17) (fun _ h9 => h9) rfl dX2_standingPegs_14 ?_
        refine lv_iload_n hx hb dX2_standingPegs_17 rfl (lv_at hl 0 rfl) ?_
        refine pw_aldq hx hb hK.1 hP 1 1 rfl rfl (by decide) (by omega) dX2_standingPegs_18 ?_
        refine va_getN (D := D) (ci := 0) (v := va_rf (pr3)) (C := RX0) (T := TX0) (N := 6) hx hb hts hi_X2_standingPegs_0 hown hK.1 hP 5 rfl rfl 0 (by decide) (va_Nw.use rfl hNW.2.1) (fun _ h9 => h9) rfl dX2_standingPegs_19 ?_
        refine pw_ifnull (tgt := 28) hx hb dX2_standingPegs_22 (by decide) (fun c_14 => ?_) (fun c_14 => ?_)
        · have _h := c_14
          refine lv_iinc (v := nI 4) (lv' := [(2, .int (nI 4)), (1, .int (nI 2)), (0, .ref h)]) hx hb dX2_standingPegs_28 hl (k := 0) rfl (pw_inc _ 1) (by decide) rfl (fun ls hl => ?_)
          refine lv_goto (tgt := 4) hx hb dX2_standingPegs_31 (by decide) ?_
          refine lv_iload_n hx hb dX2_standingPegs_4 rfl (lv_at hl 0 rfl) ?_
          refine lv_aload_n hx hb dX2_standingPegs_5 rfl (lv_at hl 2 rfl) ?_
          refine va_get (D := D) (ci := 2) (v := .ref qp) (C := RX2) (T := TX2) (N := 7) hx hb hts hi_X2_standingPegs_2 hown hK.1 hP 0 rfl rfl 1 (by decide) (hts _ hf_X2_standingPegs_17) (fun _ h9 => h9) rfl dX2_standingPegs_6 ?_
          refine va_alen (v := nI 4) hx hb hK.1 hP 1 1 rfl rfl rfl dX2_standingPegs_9 ?_
          refine lv_icmp_ge (tgt := 34) hx hb dX2_standingPegs_10 (by decide) (fun c => ?_) (fun c => absurd c (by decide))
          refine lv_iload_n hx hb dX2_standingPegs_34 rfl (lv_at hl 1 rfl) ?_
          exact pw_piret hx hb hr (rfl) hlocks dX2_standingPegs_35 (by rw [if_neg c_1, if_neg c_9, if_pos c_13, if_pos c_14])
        · have _h := c_14
          refine lv_iinc (v := nI 3) (lv' := [(1, .int (nI 3)), (2, .int (nI 3)), (0, .ref h)]) hx hb dX2_standingPegs_25 hl (k := 1) rfl (pw_inc _ 1) (by decide) rfl (fun ls hl => ?_)
          refine lv_iinc (v := nI 4) (lv' := [(2, .int (nI 4)), (1, .int (nI 3)), (0, .ref h)]) hx hb dX2_standingPegs_28 hl (k := 1) rfl (pw_inc _ 1) (by decide) rfl (fun ls hl => ?_)
          refine lv_goto (tgt := 4) hx hb dX2_standingPegs_31 (by decide) ?_
          refine lv_iload_n hx hb dX2_standingPegs_4 rfl (lv_at hl 0 rfl) ?_
          refine lv_aload_n hx hb dX2_standingPegs_5 rfl (lv_at hl 2 rfl) ?_
          refine va_get (D := D) (ci := 2) (v := .ref qp) (C := RX2) (T := TX2) (N := 7) hx hb hts hi_X2_standingPegs_2 hown hK.1 hP 0 rfl rfl 1 (by decide) (hts _ hf_X2_standingPegs_17) (fun _ h9 => h9) rfl dX2_standingPegs_6 ?_
          refine va_alen (v := nI 4) hx hb hK.1 hP 1 1 rfl rfl rfl dX2_standingPegs_9 ?_
          refine lv_icmp_ge (tgt := 34) hx hb dX2_standingPegs_10 (by decide) (fun c => ?_) (fun c => absurd c (by decide))
          refine lv_iload_n hx hb dX2_standingPegs_34 rfl (lv_at hl 1 rfl) ?_
          exact pw_piret hx hb hr (rfl) hlocks dX2_standingPegs_35 (by rw [if_neg c_1, if_neg c_9, if_pos c_13, if_neg c_14])
      · have _h := c_13
        refine lv_iinc (v := nI 3) (lv' := [(1, .int (nI 3)), (2, .int (nI 2)), (0, .ref h)]) hx hb dX2_standingPegs_25 hl (k := 1) rfl (pw_inc _ 1) (by decide) rfl (fun ls hl => ?_)
        refine lv_iinc (v := nI 3) (lv' := [(2, .int (nI 3)), (1, .int (nI 3)), (0, .ref h)]) hx hb dX2_standingPegs_28 hl (k := 1) rfl (pw_inc _ 1) (by decide) rfl (fun ls hl => ?_)
        refine lv_goto (tgt := 4) hx hb dX2_standingPegs_31 (by decide) ?_
        refine lv_iload_n hx hb dX2_standingPegs_4 rfl (lv_at hl 0 rfl) ?_
        refine lv_aload_n hx hb dX2_standingPegs_5 rfl (lv_at hl 2 rfl) ?_
        refine va_get (D := D) (ci := 2) (v := .ref qp) (C := RX2) (T := TX2) (N := 7) hx hb hts hi_X2_standingPegs_2 hown hK.1 hP 0 rfl rfl 1 (by decide) (hts _ hf_X2_standingPegs_17) (fun _ h9 => h9) rfl dX2_standingPegs_6 ?_
        refine va_alen (v := nI 4) hx hb hK.1 hP 1 1 rfl rfl rfl dX2_standingPegs_9 ?_
        refine lv_icmp_ge (tgt := 34) hx hb dX2_standingPegs_10 (by decide) (fun c => absurd c (by decide)) (fun c => ?_)
        refine lv_aload_n hx hb dX2_standingPegs_13 rfl (lv_at hl 2 rfl) ?_
        refine va_get (D := D) (ci := 2) (v := .ref qp) (C := RX2) (T := TX2) (N := 7) hx hb hts hi_X2_standingPegs_2 hown hK.1 hP 0 rfl rfl 1 (by decide) (hts _ hf_X2_standingPegs_17) (fun _ h9 => h9) rfl dX2_standingPegs_14 ?_
        refine lv_iload_n hx hb dX2_standingPegs_17 rfl (lv_at hl 0 rfl) ?_
        refine pw_aldq hx hb hK.1 hP 1 1 rfl rfl (by decide) (by omega) dX2_standingPegs_18 ?_
        refine va_getN (D := D) (ci := 0) (v := va_rf (pr3)) (C := RX0) (T := TX0) (N := 6) hx hb hts hi_X2_standingPegs_0 hown hK.1 hP 5 rfl rfl 0 (by decide) (va_Nw.use rfl hNW.2.1) (fun _ h9 => h9) rfl dX2_standingPegs_19 ?_
        refine pw_ifnull (tgt := 28) hx hb dX2_standingPegs_22 (by decide) (fun c_15 => ?_) (fun c_15 => ?_)
        · have _h := c_15
          refine lv_iinc (v := nI 4) (lv' := [(2, .int (nI 4)), (1, .int (nI 3)), (0, .ref h)]) hx hb dX2_standingPegs_28 hl (k := 0) rfl (pw_inc _ 1) (by decide) rfl (fun ls hl => ?_)
          refine lv_goto (tgt := 4) hx hb dX2_standingPegs_31 (by decide) ?_
          refine lv_iload_n hx hb dX2_standingPegs_4 rfl (lv_at hl 0 rfl) ?_
          refine lv_aload_n hx hb dX2_standingPegs_5 rfl (lv_at hl 2 rfl) ?_
          refine va_get (D := D) (ci := 2) (v := .ref qp) (C := RX2) (T := TX2) (N := 7) hx hb hts hi_X2_standingPegs_2 hown hK.1 hP 0 rfl rfl 1 (by decide) (hts _ hf_X2_standingPegs_17) (fun _ h9 => h9) rfl dX2_standingPegs_6 ?_
          refine va_alen (v := nI 4) hx hb hK.1 hP 1 1 rfl rfl rfl dX2_standingPegs_9 ?_
          refine lv_icmp_ge (tgt := 34) hx hb dX2_standingPegs_10 (by decide) (fun c => ?_) (fun c => absurd c (by decide))
          refine lv_iload_n hx hb dX2_standingPegs_34 rfl (lv_at hl 1 rfl) ?_
          exact pw_piret hx hb hr (rfl) hlocks dX2_standingPegs_35 (by rw [if_neg c_1, if_neg c_9, if_neg c_13, if_pos c_15])
        · have _h := c_15
          refine lv_iinc (v := nI 4) (lv' := [(1, .int (nI 4)), (2, .int (nI 3)), (0, .ref h)]) hx hb dX2_standingPegs_25 hl (k := 1) rfl (pw_inc _ 1) (by decide) rfl (fun ls hl => ?_)
          refine lv_iinc (v := nI 4) (lv' := [(2, .int (nI 4)), (1, .int (nI 4)), (0, .ref h)]) hx hb dX2_standingPegs_28 hl (k := 1) rfl (pw_inc _ 1) (by decide) rfl (fun ls hl => ?_)
          refine lv_goto (tgt := 4) hx hb dX2_standingPegs_31 (by decide) ?_
          refine lv_iload_n hx hb dX2_standingPegs_4 rfl (lv_at hl 0 rfl) ?_
          refine lv_aload_n hx hb dX2_standingPegs_5 rfl (lv_at hl 2 rfl) ?_
          refine va_get (D := D) (ci := 2) (v := .ref qp) (C := RX2) (T := TX2) (N := 7) hx hb hts hi_X2_standingPegs_2 hown hK.1 hP 0 rfl rfl 1 (by decide) (hts _ hf_X2_standingPegs_17) (fun _ h9 => h9) rfl dX2_standingPegs_6 ?_
          refine va_alen (v := nI 4) hx hb hK.1 hP 1 1 rfl rfl rfl dX2_standingPegs_9 ?_
          refine lv_icmp_ge (tgt := 34) hx hb dX2_standingPegs_10 (by decide) (fun c => ?_) (fun c => absurd c (by decide))
          refine lv_iload_n hx hb dX2_standingPegs_34 rfl (lv_at hl 1 rfl) ?_
          exact pw_piret hx hb hr (rfl) hlocks dX2_standingPegs_35 (by rw [if_neg c_1, if_neg c_9, if_neg c_13, if_neg c_15])
def oldP (r : Option Nat) (s c0 c1 c2 : Int32) : Nat := match r with | none => 0 | some 0 => if s = c0 then 0 else 1 | some 1 => if s = c1 then 0 else 1 | some _ => if s = c2 then 0 else 1
def inP (r : Option Nat) (p s c0 c1 c2 : Int32) (n0 n1 n2 : Nat) : Prop := match r with | none => True | some 0 => s = c0 → 0 ≤ p ∧ p ≤ nI n0 | some 1 => s = c1 → 0 ≤ p ∧ p ≤ nI n1 | some _ => s = c2 → 0 ≤ p ∧ p ≤ nI n2
set_option maxHeartbeats 4000000 in
theorem c_oldK0 (l : Launch) (D : va_G) (cI cP cR : ClassId) (h qr qp md : Nat) (r0 r1 r2 r3 : Int32) (po : Nat → Nat) (ro : Nat → Nat) (pr0 : Option Nat) (pa0 ps0 ph0 pt0 pm0 : Int32) (pr1 : Option Nat) (pa1 ps1 ph1 pt1 pm1 : Int32) (pr2 : Option Nat) (pa2 ps2 ph2 pt2 pm2 : Int32) (pr3 : Option Nat) (pa3 ps3 ph3 pt3 pm3 : Int32) (a0 a1 a2 : Nat) (n0 n1 n2 : Nat) (c0 c1 c2 : Int32) (f0 f1 f2 : Nat → Int32) (hr : ∀ x, pr0 = some x → x < 3) (hw : inP pr0 pa0 ps0 c0 c1 c2 n0 n1 n2) : pw_Mp l yX0_isOld wsX0_isOld ({ frames := 1, cells := 0, slots := 0, locals := 21 } : Room) D cI cP cR [.ref (po 0)] ([(po 0, .inr (0, [va_rf (pr0.map ro), .int (pa0), .int (ps0), .int (ph0), .int (pt0), .int (pm0)])), (po 1, .inr (0, [va_rf (pr1.map ro), .int (pa1), .int (ps1), .int (ph1), .int (pt1), .int (pm1)])), (po 2, .inr (0, [va_rf (pr2.map ro), .int (pa2), .int (ps2), .int (ph2), .int (pt2), .int (pm2)])), (po 3, .inr (0, [va_rf (pr3.map ro), .int (pa3), .int (ps3), .int (ph3), .int (pt3), .int (pm3)])), (ro 0, .inr (1, [.ref a0, .int (nI n0), .int (c0)])), (a0, .inl (cI, 60, .inl (f0))), (ro 1, .inr (1, [.ref a1, .int (nI n1), .int (c1)])), (a1, .inl (cI, 60, .inl (f1))), (ro 2, .inr (1, [.ref a2, .int (nI n2), .int (c2)])), (a2, .inl (cI, 60, .inl (f2)))]) (.int (nI (oldP pr0 ps0 c0 c1 c2))) := by
  rcases pr0 with _ | _ | _ | _ | x
  · exact pw_frp (c_isOld_n l D cI cP cR (po 0) pa0 ps0 ph0 pt0 pm0) [0] rfl (by decide)
  · have e := pw_frp (c_isOld_r l D cI cP cR (po 0) pa0 ps0 ph0 pt0 pm0 (ro 0) a0 n0 c0 f0 hw) (w := [(po 0, .inr (0, [.ref (ro 0), .int (pa0), .int (ps0), .int (ph0), .int (pt0), .int (pm0)])), (po 1, .inr (0, [va_rf (pr1.map ro), .int (pa1), .int (ps1), .int (ph1), .int (pt1), .int (pm1)])), (po 2, .inr (0, [va_rf (pr2.map ro), .int (pa2), .int (ps2), .int (ph2), .int (pt2), .int (pm2)])), (po 3, .inr (0, [va_rf (pr3.map ro), .int (pa3), .int (ps3), .int (ph3), .int (pt3), .int (pm3)])), (ro 0, .inr (1, [.ref a0, .int (nI n0), .int (c0)])), (a0, .inl (cI, 60, .inl (f0))), (ro 1, .inr (1, [.ref a1, .int (nI n1), .int (c1)])), (a1, .inl (cI, 60, .inl (f1))), (ro 2, .inr (1, [.ref a2, .int (nI n2), .int (c2)])), (a2, .inl (cI, 60, .inl (f2)))]) [0, 4, 5] rfl (by decide)
    by_cases h9 : ps0 = c0
    · rw [if_pos h9] at e; have e2 : nI (oldP (some 0) ps0 c0 c1 c2) = 0 := by simp [oldP, h9, nI_0]
      first | (rw [e2]; exact e) | (simp only [Nat.zero_add, Nat.reduceAdd] at e2 ⊢; rw [e2]; exact e)
    · rw [if_neg h9] at e; have e2 : nI (oldP (some 0) ps0 c0 c1 c2) = 1 := by simp [oldP, h9, pw_n1]
      first | (rw [e2]; exact e) | (simp only [Nat.zero_add, Nat.reduceAdd] at e2 ⊢; rw [e2]; exact e)
  · have e := pw_frp (c_isOld_r l D cI cP cR (po 0) pa0 ps0 ph0 pt0 pm0 (ro 1) a1 n1 c1 f1 hw) (w := [(po 0, .inr (0, [.ref (ro 1), .int (pa0), .int (ps0), .int (ph0), .int (pt0), .int (pm0)])), (po 1, .inr (0, [va_rf (pr1.map ro), .int (pa1), .int (ps1), .int (ph1), .int (pt1), .int (pm1)])), (po 2, .inr (0, [va_rf (pr2.map ro), .int (pa2), .int (ps2), .int (ph2), .int (pt2), .int (pm2)])), (po 3, .inr (0, [va_rf (pr3.map ro), .int (pa3), .int (ps3), .int (ph3), .int (pt3), .int (pm3)])), (ro 0, .inr (1, [.ref a0, .int (nI n0), .int (c0)])), (a0, .inl (cI, 60, .inl (f0))), (ro 1, .inr (1, [.ref a1, .int (nI n1), .int (c1)])), (a1, .inl (cI, 60, .inl (f1))), (ro 2, .inr (1, [.ref a2, .int (nI n2), .int (c2)])), (a2, .inl (cI, 60, .inl (f2)))]) [0, 6, 7] rfl (by decide)
    by_cases h9 : ps0 = c1
    · rw [if_pos h9] at e; have e2 : nI (oldP (some 1) ps0 c0 c1 c2) = 0 := by simp [oldP, h9, nI_0]
      first | (rw [e2]; exact e) | (simp only [Nat.zero_add, Nat.reduceAdd] at e2 ⊢; rw [e2]; exact e)
    · rw [if_neg h9] at e; have e2 : nI (oldP (some 1) ps0 c0 c1 c2) = 1 := by simp [oldP, h9, pw_n1]
      first | (rw [e2]; exact e) | (simp only [Nat.zero_add, Nat.reduceAdd] at e2 ⊢; rw [e2]; exact e)
  · have e := pw_frp (c_isOld_r l D cI cP cR (po 0) pa0 ps0 ph0 pt0 pm0 (ro 2) a2 n2 c2 f2 hw) (w := [(po 0, .inr (0, [.ref (ro 2), .int (pa0), .int (ps0), .int (ph0), .int (pt0), .int (pm0)])), (po 1, .inr (0, [va_rf (pr1.map ro), .int (pa1), .int (ps1), .int (ph1), .int (pt1), .int (pm1)])), (po 2, .inr (0, [va_rf (pr2.map ro), .int (pa2), .int (ps2), .int (ph2), .int (pt2), .int (pm2)])), (po 3, .inr (0, [va_rf (pr3.map ro), .int (pa3), .int (ps3), .int (ph3), .int (pt3), .int (pm3)])), (ro 0, .inr (1, [.ref a0, .int (nI n0), .int (c0)])), (a0, .inl (cI, 60, .inl (f0))), (ro 1, .inr (1, [.ref a1, .int (nI n1), .int (c1)])), (a1, .inl (cI, 60, .inl (f1))), (ro 2, .inr (1, [.ref a2, .int (nI n2), .int (c2)])), (a2, .inl (cI, 60, .inl (f2)))]) [0, 8, 9] rfl (by decide)
    by_cases h9 : ps0 = c2
    · rw [if_pos h9] at e; have e2 : nI (oldP (some 2) ps0 c0 c1 c2) = 0 := by simp [oldP, h9, nI_0]
      first | (rw [e2]; exact e) | (simp only [Nat.zero_add, Nat.reduceAdd] at e2 ⊢; rw [e2]; exact e)
    · rw [if_neg h9] at e; have e2 : nI (oldP (some 2) ps0 c0 c1 c2) = 1 := by simp [oldP, h9, pw_n1]
      first | (rw [e2]; exact e) | (simp only [Nat.zero_add, Nat.reduceAdd] at e2 ⊢; rw [e2]; exact e)
  · exact absurd (hr _ rfl) (by omega)
set_option maxHeartbeats 4000000 in
theorem c_oldK1 (l : Launch) (D : va_G) (cI cP cR : ClassId) (h qr qp md : Nat) (r0 r1 r2 r3 : Int32) (po : Nat → Nat) (ro : Nat → Nat) (pr0 : Option Nat) (pa0 ps0 ph0 pt0 pm0 : Int32) (pr1 : Option Nat) (pa1 ps1 ph1 pt1 pm1 : Int32) (pr2 : Option Nat) (pa2 ps2 ph2 pt2 pm2 : Int32) (pr3 : Option Nat) (pa3 ps3 ph3 pt3 pm3 : Int32) (a0 a1 a2 : Nat) (n0 n1 n2 : Nat) (c0 c1 c2 : Int32) (f0 f1 f2 : Nat → Int32) (hr : ∀ x, pr1 = some x → x < 3) (hw : inP pr1 pa1 ps1 c0 c1 c2 n0 n1 n2) : pw_Mp l yX0_isOld wsX0_isOld ({ frames := 1, cells := 0, slots := 0, locals := 21 } : Room) D cI cP cR [.ref (po 1)] ([(po 0, .inr (0, [va_rf (pr0.map ro), .int (pa0), .int (ps0), .int (ph0), .int (pt0), .int (pm0)])), (po 1, .inr (0, [va_rf (pr1.map ro), .int (pa1), .int (ps1), .int (ph1), .int (pt1), .int (pm1)])), (po 2, .inr (0, [va_rf (pr2.map ro), .int (pa2), .int (ps2), .int (ph2), .int (pt2), .int (pm2)])), (po 3, .inr (0, [va_rf (pr3.map ro), .int (pa3), .int (ps3), .int (ph3), .int (pt3), .int (pm3)])), (ro 0, .inr (1, [.ref a0, .int (nI n0), .int (c0)])), (a0, .inl (cI, 60, .inl (f0))), (ro 1, .inr (1, [.ref a1, .int (nI n1), .int (c1)])), (a1, .inl (cI, 60, .inl (f1))), (ro 2, .inr (1, [.ref a2, .int (nI n2), .int (c2)])), (a2, .inl (cI, 60, .inl (f2)))]) (.int (nI (oldP pr1 ps1 c0 c1 c2))) := by
  rcases pr1 with _ | _ | _ | _ | x
  · exact pw_frp (c_isOld_n l D cI cP cR (po 1) pa1 ps1 ph1 pt1 pm1) [1] rfl (by decide)
  · have e := pw_frp (c_isOld_r l D cI cP cR (po 1) pa1 ps1 ph1 pt1 pm1 (ro 0) a0 n0 c0 f0 hw) (w := [(po 0, .inr (0, [va_rf (pr0.map ro), .int (pa0), .int (ps0), .int (ph0), .int (pt0), .int (pm0)])), (po 1, .inr (0, [.ref (ro 0), .int (pa1), .int (ps1), .int (ph1), .int (pt1), .int (pm1)])), (po 2, .inr (0, [va_rf (pr2.map ro), .int (pa2), .int (ps2), .int (ph2), .int (pt2), .int (pm2)])), (po 3, .inr (0, [va_rf (pr3.map ro), .int (pa3), .int (ps3), .int (ph3), .int (pt3), .int (pm3)])), (ro 0, .inr (1, [.ref a0, .int (nI n0), .int (c0)])), (a0, .inl (cI, 60, .inl (f0))), (ro 1, .inr (1, [.ref a1, .int (nI n1), .int (c1)])), (a1, .inl (cI, 60, .inl (f1))), (ro 2, .inr (1, [.ref a2, .int (nI n2), .int (c2)])), (a2, .inl (cI, 60, .inl (f2)))]) [1, 4, 5] rfl (by decide)
    by_cases h9 : ps1 = c0
    · rw [if_pos h9] at e; have e2 : nI (oldP (some 0) ps1 c0 c1 c2) = 0 := by simp [oldP, h9, nI_0]
      first | (rw [e2]; exact e) | (simp only [Nat.zero_add, Nat.reduceAdd] at e2 ⊢; rw [e2]; exact e)
    · rw [if_neg h9] at e; have e2 : nI (oldP (some 0) ps1 c0 c1 c2) = 1 := by simp [oldP, h9, pw_n1]
      first | (rw [e2]; exact e) | (simp only [Nat.zero_add, Nat.reduceAdd] at e2 ⊢; rw [e2]; exact e)
  · have e := pw_frp (c_isOld_r l D cI cP cR (po 1) pa1 ps1 ph1 pt1 pm1 (ro 1) a1 n1 c1 f1 hw) (w := [(po 0, .inr (0, [va_rf (pr0.map ro), .int (pa0), .int (ps0), .int (ph0), .int (pt0), .int (pm0)])), (po 1, .inr (0, [.ref (ro 1), .int (pa1), .int (ps1), .int (ph1), .int (pt1), .int (pm1)])), (po 2, .inr (0, [va_rf (pr2.map ro), .int (pa2), .int (ps2), .int (ph2), .int (pt2), .int (pm2)])), (po 3, .inr (0, [va_rf (pr3.map ro), .int (pa3), .int (ps3), .int (ph3), .int (pt3), .int (pm3)])), (ro 0, .inr (1, [.ref a0, .int (nI n0), .int (c0)])), (a0, .inl (cI, 60, .inl (f0))), (ro 1, .inr (1, [.ref a1, .int (nI n1), .int (c1)])), (a1, .inl (cI, 60, .inl (f1))), (ro 2, .inr (1, [.ref a2, .int (nI n2), .int (c2)])), (a2, .inl (cI, 60, .inl (f2)))]) [1, 6, 7] rfl (by decide)
    by_cases h9 : ps1 = c1
    · rw [if_pos h9] at e; have e2 : nI (oldP (some 1) ps1 c0 c1 c2) = 0 := by simp [oldP, h9, nI_0]
      first | (rw [e2]; exact e) | (simp only [Nat.zero_add, Nat.reduceAdd] at e2 ⊢; rw [e2]; exact e)
    · rw [if_neg h9] at e; have e2 : nI (oldP (some 1) ps1 c0 c1 c2) = 1 := by simp [oldP, h9, pw_n1]
      first | (rw [e2]; exact e) | (simp only [Nat.zero_add, Nat.reduceAdd] at e2 ⊢; rw [e2]; exact e)
  · have e := pw_frp (c_isOld_r l D cI cP cR (po 1) pa1 ps1 ph1 pt1 pm1 (ro 2) a2 n2 c2 f2 hw) (w := [(po 0, .inr (0, [va_rf (pr0.map ro), .int (pa0), .int (ps0), .int (ph0), .int (pt0), .int (pm0)])), (po 1, .inr (0, [.ref (ro 2), .int (pa1), .int (ps1), .int (ph1), .int (pt1), .int (pm1)])), (po 2, .inr (0, [va_rf (pr2.map ro), .int (pa2), .int (ps2), .int (ph2), .int (pt2), .int (pm2)])), (po 3, .inr (0, [va_rf (pr3.map ro), .int (pa3), .int (ps3), .int (ph3), .int (pt3), .int (pm3)])), (ro 0, .inr (1, [.ref a0, .int (nI n0), .int (c0)])), (a0, .inl (cI, 60, .inl (f0))), (ro 1, .inr (1, [.ref a1, .int (nI n1), .int (c1)])), (a1, .inl (cI, 60, .inl (f1))), (ro 2, .inr (1, [.ref a2, .int (nI n2), .int (c2)])), (a2, .inl (cI, 60, .inl (f2)))]) [1, 8, 9] rfl (by decide)
    by_cases h9 : ps1 = c2
    · rw [if_pos h9] at e; have e2 : nI (oldP (some 2) ps1 c0 c1 c2) = 0 := by simp [oldP, h9, nI_0]
      first | (rw [e2]; exact e) | (simp only [Nat.zero_add, Nat.reduceAdd] at e2 ⊢; rw [e2]; exact e)
    · rw [if_neg h9] at e; have e2 : nI (oldP (some 2) ps1 c0 c1 c2) = 1 := by simp [oldP, h9, pw_n1]
      first | (rw [e2]; exact e) | (simp only [Nat.zero_add, Nat.reduceAdd] at e2 ⊢; rw [e2]; exact e)
  · exact absurd (hr _ rfl) (by omega)
set_option maxHeartbeats 4000000 in
theorem c_oldK2 (l : Launch) (D : va_G) (cI cP cR : ClassId) (h qr qp md : Nat) (r0 r1 r2 r3 : Int32) (po : Nat → Nat) (ro : Nat → Nat) (pr0 : Option Nat) (pa0 ps0 ph0 pt0 pm0 : Int32) (pr1 : Option Nat) (pa1 ps1 ph1 pt1 pm1 : Int32) (pr2 : Option Nat) (pa2 ps2 ph2 pt2 pm2 : Int32) (pr3 : Option Nat) (pa3 ps3 ph3 pt3 pm3 : Int32) (a0 a1 a2 : Nat) (n0 n1 n2 : Nat) (c0 c1 c2 : Int32) (f0 f1 f2 : Nat → Int32) (hr : ∀ x, pr2 = some x → x < 3) (hw : inP pr2 pa2 ps2 c0 c1 c2 n0 n1 n2) : pw_Mp l yX0_isOld wsX0_isOld ({ frames := 1, cells := 0, slots := 0, locals := 21 } : Room) D cI cP cR [.ref (po 2)] ([(po 0, .inr (0, [va_rf (pr0.map ro), .int (pa0), .int (ps0), .int (ph0), .int (pt0), .int (pm0)])), (po 1, .inr (0, [va_rf (pr1.map ro), .int (pa1), .int (ps1), .int (ph1), .int (pt1), .int (pm1)])), (po 2, .inr (0, [va_rf (pr2.map ro), .int (pa2), .int (ps2), .int (ph2), .int (pt2), .int (pm2)])), (po 3, .inr (0, [va_rf (pr3.map ro), .int (pa3), .int (ps3), .int (ph3), .int (pt3), .int (pm3)])), (ro 0, .inr (1, [.ref a0, .int (nI n0), .int (c0)])), (a0, .inl (cI, 60, .inl (f0))), (ro 1, .inr (1, [.ref a1, .int (nI n1), .int (c1)])), (a1, .inl (cI, 60, .inl (f1))), (ro 2, .inr (1, [.ref a2, .int (nI n2), .int (c2)])), (a2, .inl (cI, 60, .inl (f2)))]) (.int (nI (oldP pr2 ps2 c0 c1 c2))) := by
  rcases pr2 with _ | _ | _ | _ | x
  · exact pw_frp (c_isOld_n l D cI cP cR (po 2) pa2 ps2 ph2 pt2 pm2) [2] rfl (by decide)
  · have e := pw_frp (c_isOld_r l D cI cP cR (po 2) pa2 ps2 ph2 pt2 pm2 (ro 0) a0 n0 c0 f0 hw) (w := [(po 0, .inr (0, [va_rf (pr0.map ro), .int (pa0), .int (ps0), .int (ph0), .int (pt0), .int (pm0)])), (po 1, .inr (0, [va_rf (pr1.map ro), .int (pa1), .int (ps1), .int (ph1), .int (pt1), .int (pm1)])), (po 2, .inr (0, [.ref (ro 0), .int (pa2), .int (ps2), .int (ph2), .int (pt2), .int (pm2)])), (po 3, .inr (0, [va_rf (pr3.map ro), .int (pa3), .int (ps3), .int (ph3), .int (pt3), .int (pm3)])), (ro 0, .inr (1, [.ref a0, .int (nI n0), .int (c0)])), (a0, .inl (cI, 60, .inl (f0))), (ro 1, .inr (1, [.ref a1, .int (nI n1), .int (c1)])), (a1, .inl (cI, 60, .inl (f1))), (ro 2, .inr (1, [.ref a2, .int (nI n2), .int (c2)])), (a2, .inl (cI, 60, .inl (f2)))]) [2, 4, 5] rfl (by decide)
    by_cases h9 : ps2 = c0
    · rw [if_pos h9] at e; have e2 : nI (oldP (some 0) ps2 c0 c1 c2) = 0 := by simp [oldP, h9, nI_0]
      first | (rw [e2]; exact e) | (simp only [Nat.zero_add, Nat.reduceAdd] at e2 ⊢; rw [e2]; exact e)
    · rw [if_neg h9] at e; have e2 : nI (oldP (some 0) ps2 c0 c1 c2) = 1 := by simp [oldP, h9, pw_n1]
      first | (rw [e2]; exact e) | (simp only [Nat.zero_add, Nat.reduceAdd] at e2 ⊢; rw [e2]; exact e)
  · have e := pw_frp (c_isOld_r l D cI cP cR (po 2) pa2 ps2 ph2 pt2 pm2 (ro 1) a1 n1 c1 f1 hw) (w := [(po 0, .inr (0, [va_rf (pr0.map ro), .int (pa0), .int (ps0), .int (ph0), .int (pt0), .int (pm0)])), (po 1, .inr (0, [va_rf (pr1.map ro), .int (pa1), .int (ps1), .int (ph1), .int (pt1), .int (pm1)])), (po 2, .inr (0, [.ref (ro 1), .int (pa2), .int (ps2), .int (ph2), .int (pt2), .int (pm2)])), (po 3, .inr (0, [va_rf (pr3.map ro), .int (pa3), .int (ps3), .int (ph3), .int (pt3), .int (pm3)])), (ro 0, .inr (1, [.ref a0, .int (nI n0), .int (c0)])), (a0, .inl (cI, 60, .inl (f0))), (ro 1, .inr (1, [.ref a1, .int (nI n1), .int (c1)])), (a1, .inl (cI, 60, .inl (f1))), (ro 2, .inr (1, [.ref a2, .int (nI n2), .int (c2)])), (a2, .inl (cI, 60, .inl (f2)))]) [2, 6, 7] rfl (by decide)
    by_cases h9 : ps2 = c1
    · rw [if_pos h9] at e; have e2 : nI (oldP (some 1) ps2 c0 c1 c2) = 0 := by simp [oldP, h9, nI_0]
      first | (rw [e2]; exact e) | (simp only [Nat.zero_add, Nat.reduceAdd] at e2 ⊢; rw [e2]; exact e)
    · rw [if_neg h9] at e; have e2 : nI (oldP (some 1) ps2 c0 c1 c2) = 1 := by simp [oldP, h9, pw_n1]
      first | (rw [e2]; exact e) | (simp only [Nat.zero_add, Nat.reduceAdd] at e2 ⊢; rw [e2]; exact e)
  · have e := pw_frp (c_isOld_r l D cI cP cR (po 2) pa2 ps2 ph2 pt2 pm2 (ro 2) a2 n2 c2 f2 hw) (w := [(po 0, .inr (0, [va_rf (pr0.map ro), .int (pa0), .int (ps0), .int (ph0), .int (pt0), .int (pm0)])), (po 1, .inr (0, [va_rf (pr1.map ro), .int (pa1), .int (ps1), .int (ph1), .int (pt1), .int (pm1)])), (po 2, .inr (0, [.ref (ro 2), .int (pa2), .int (ps2), .int (ph2), .int (pt2), .int (pm2)])), (po 3, .inr (0, [va_rf (pr3.map ro), .int (pa3), .int (ps3), .int (ph3), .int (pt3), .int (pm3)])), (ro 0, .inr (1, [.ref a0, .int (nI n0), .int (c0)])), (a0, .inl (cI, 60, .inl (f0))), (ro 1, .inr (1, [.ref a1, .int (nI n1), .int (c1)])), (a1, .inl (cI, 60, .inl (f1))), (ro 2, .inr (1, [.ref a2, .int (nI n2), .int (c2)])), (a2, .inl (cI, 60, .inl (f2)))]) [2, 8, 9] rfl (by decide)
    by_cases h9 : ps2 = c2
    · rw [if_pos h9] at e; have e2 : nI (oldP (some 2) ps2 c0 c1 c2) = 0 := by simp [oldP, h9, nI_0]
      first | (rw [e2]; exact e) | (simp only [Nat.zero_add, Nat.reduceAdd] at e2 ⊢; rw [e2]; exact e)
    · rw [if_neg h9] at e; have e2 : nI (oldP (some 2) ps2 c0 c1 c2) = 1 := by simp [oldP, h9, pw_n1]
      first | (rw [e2]; exact e) | (simp only [Nat.zero_add, Nat.reduceAdd] at e2 ⊢; rw [e2]; exact e)
  · exact absurd (hr _ rfl) (by omega)
set_option maxHeartbeats 4000000 in
theorem c_oldK3 (l : Launch) (D : va_G) (cI cP cR : ClassId) (h qr qp md : Nat) (r0 r1 r2 r3 : Int32) (po : Nat → Nat) (ro : Nat → Nat) (pr0 : Option Nat) (pa0 ps0 ph0 pt0 pm0 : Int32) (pr1 : Option Nat) (pa1 ps1 ph1 pt1 pm1 : Int32) (pr2 : Option Nat) (pa2 ps2 ph2 pt2 pm2 : Int32) (pr3 : Option Nat) (pa3 ps3 ph3 pt3 pm3 : Int32) (a0 a1 a2 : Nat) (n0 n1 n2 : Nat) (c0 c1 c2 : Int32) (f0 f1 f2 : Nat → Int32) (hr : ∀ x, pr3 = some x → x < 3) (hw : inP pr3 pa3 ps3 c0 c1 c2 n0 n1 n2) : pw_Mp l yX0_isOld wsX0_isOld ({ frames := 1, cells := 0, slots := 0, locals := 21 } : Room) D cI cP cR [.ref (po 3)] ([(po 0, .inr (0, [va_rf (pr0.map ro), .int (pa0), .int (ps0), .int (ph0), .int (pt0), .int (pm0)])), (po 1, .inr (0, [va_rf (pr1.map ro), .int (pa1), .int (ps1), .int (ph1), .int (pt1), .int (pm1)])), (po 2, .inr (0, [va_rf (pr2.map ro), .int (pa2), .int (ps2), .int (ph2), .int (pt2), .int (pm2)])), (po 3, .inr (0, [va_rf (pr3.map ro), .int (pa3), .int (ps3), .int (ph3), .int (pt3), .int (pm3)])), (ro 0, .inr (1, [.ref a0, .int (nI n0), .int (c0)])), (a0, .inl (cI, 60, .inl (f0))), (ro 1, .inr (1, [.ref a1, .int (nI n1), .int (c1)])), (a1, .inl (cI, 60, .inl (f1))), (ro 2, .inr (1, [.ref a2, .int (nI n2), .int (c2)])), (a2, .inl (cI, 60, .inl (f2)))]) (.int (nI (oldP pr3 ps3 c0 c1 c2))) := by
  rcases pr3 with _ | _ | _ | _ | x
  · exact pw_frp (c_isOld_n l D cI cP cR (po 3) pa3 ps3 ph3 pt3 pm3) [3] rfl (by decide)
  · have e := pw_frp (c_isOld_r l D cI cP cR (po 3) pa3 ps3 ph3 pt3 pm3 (ro 0) a0 n0 c0 f0 hw) (w := [(po 0, .inr (0, [va_rf (pr0.map ro), .int (pa0), .int (ps0), .int (ph0), .int (pt0), .int (pm0)])), (po 1, .inr (0, [va_rf (pr1.map ro), .int (pa1), .int (ps1), .int (ph1), .int (pt1), .int (pm1)])), (po 2, .inr (0, [va_rf (pr2.map ro), .int (pa2), .int (ps2), .int (ph2), .int (pt2), .int (pm2)])), (po 3, .inr (0, [.ref (ro 0), .int (pa3), .int (ps3), .int (ph3), .int (pt3), .int (pm3)])), (ro 0, .inr (1, [.ref a0, .int (nI n0), .int (c0)])), (a0, .inl (cI, 60, .inl (f0))), (ro 1, .inr (1, [.ref a1, .int (nI n1), .int (c1)])), (a1, .inl (cI, 60, .inl (f1))), (ro 2, .inr (1, [.ref a2, .int (nI n2), .int (c2)])), (a2, .inl (cI, 60, .inl (f2)))]) [3, 4, 5] rfl (by decide)
    by_cases h9 : ps3 = c0
    · rw [if_pos h9] at e; have e2 : nI (oldP (some 0) ps3 c0 c1 c2) = 0 := by simp [oldP, h9, nI_0]
      first | (rw [e2]; exact e) | (simp only [Nat.zero_add, Nat.reduceAdd] at e2 ⊢; rw [e2]; exact e)
    · rw [if_neg h9] at e; have e2 : nI (oldP (some 0) ps3 c0 c1 c2) = 1 := by simp [oldP, h9, pw_n1]
      first | (rw [e2]; exact e) | (simp only [Nat.zero_add, Nat.reduceAdd] at e2 ⊢; rw [e2]; exact e)
  · have e := pw_frp (c_isOld_r l D cI cP cR (po 3) pa3 ps3 ph3 pt3 pm3 (ro 1) a1 n1 c1 f1 hw) (w := [(po 0, .inr (0, [va_rf (pr0.map ro), .int (pa0), .int (ps0), .int (ph0), .int (pt0), .int (pm0)])), (po 1, .inr (0, [va_rf (pr1.map ro), .int (pa1), .int (ps1), .int (ph1), .int (pt1), .int (pm1)])), (po 2, .inr (0, [va_rf (pr2.map ro), .int (pa2), .int (ps2), .int (ph2), .int (pt2), .int (pm2)])), (po 3, .inr (0, [.ref (ro 1), .int (pa3), .int (ps3), .int (ph3), .int (pt3), .int (pm3)])), (ro 0, .inr (1, [.ref a0, .int (nI n0), .int (c0)])), (a0, .inl (cI, 60, .inl (f0))), (ro 1, .inr (1, [.ref a1, .int (nI n1), .int (c1)])), (a1, .inl (cI, 60, .inl (f1))), (ro 2, .inr (1, [.ref a2, .int (nI n2), .int (c2)])), (a2, .inl (cI, 60, .inl (f2)))]) [3, 6, 7] rfl (by decide)
    by_cases h9 : ps3 = c1
    · rw [if_pos h9] at e; have e2 : nI (oldP (some 1) ps3 c0 c1 c2) = 0 := by simp [oldP, h9, nI_0]
      first | (rw [e2]; exact e) | (simp only [Nat.zero_add, Nat.reduceAdd] at e2 ⊢; rw [e2]; exact e)
    · rw [if_neg h9] at e; have e2 : nI (oldP (some 1) ps3 c0 c1 c2) = 1 := by simp [oldP, h9, pw_n1]
      first | (rw [e2]; exact e) | (simp only [Nat.zero_add, Nat.reduceAdd] at e2 ⊢; rw [e2]; exact e)
  · have e := pw_frp (c_isOld_r l D cI cP cR (po 3) pa3 ps3 ph3 pt3 pm3 (ro 2) a2 n2 c2 f2 hw) (w := [(po 0, .inr (0, [va_rf (pr0.map ro), .int (pa0), .int (ps0), .int (ph0), .int (pt0), .int (pm0)])), (po 1, .inr (0, [va_rf (pr1.map ro), .int (pa1), .int (ps1), .int (ph1), .int (pt1), .int (pm1)])), (po 2, .inr (0, [va_rf (pr2.map ro), .int (pa2), .int (ps2), .int (ph2), .int (pt2), .int (pm2)])), (po 3, .inr (0, [.ref (ro 2), .int (pa3), .int (ps3), .int (ph3), .int (pt3), .int (pm3)])), (ro 0, .inr (1, [.ref a0, .int (nI n0), .int (c0)])), (a0, .inl (cI, 60, .inl (f0))), (ro 1, .inr (1, [.ref a1, .int (nI n1), .int (c1)])), (a1, .inl (cI, 60, .inl (f1))), (ro 2, .inr (1, [.ref a2, .int (nI n2), .int (c2)])), (a2, .inl (cI, 60, .inl (f2)))]) [3, 8, 9] rfl (by decide)
    by_cases h9 : ps3 = c2
    · rw [if_pos h9] at e; have e2 : nI (oldP (some 2) ps3 c0 c1 c2) = 0 := by simp [oldP, h9, nI_0]
      first | (rw [e2]; exact e) | (simp only [Nat.zero_add, Nat.reduceAdd] at e2 ⊢; rw [e2]; exact e)
    · rw [if_neg h9] at e; have e2 : nI (oldP (some 2) ps3 c0 c1 c2) = 1 := by simp [oldP, h9, pw_n1]
      first | (rw [e2]; exact e) | (simp only [Nat.zero_add, Nat.reduceAdd] at e2 ⊢; rw [e2]; exact e)
  · exact absurd (hr _ rfl) (by omega)
theorem hi_X2_oldPegs_2 : ∀ w ∈ u_ws RX2 TX2 7, w ∈ wsX2_oldPegs := by decide +kernel
theorem hf_X2_oldPegs_17 : Cond.fieldLink RX2 17 "Pegrow" "pegs" "[LPegrow$Peg;" ∈ wsX2_oldPegs := by decide +kernel
set_option maxHeartbeats 4000000 in
set_option maxRecDepth 100000 in
theorem c_oldPegs (l : Launch) (D : va_G) (cI cP cR : ClassId) (h qr qp md : Nat) (r0 r1 r2 r3 : Int32) (po : Nat → Nat) (ro : Nat → Nat) (pr0 : Option Nat) (pa0 ps0 ph0 pt0 pm0 : Int32) (pr1 : Option Nat) (pa1 ps1 ph1 pt1 pm1 : Int32) (pr2 : Option Nat) (pa2 ps2 ph2 pt2 pm2 : Int32) (pr3 : Option Nat) (pa3 ps3 ph3 pt3 pm3 : Int32) (a0 a1 a2 : Nat) (n0 n1 n2 : Nat) (c0 c1 c2 : Int32) (f0 f1 f2 : Nat → Int32) (hr0 : ∀ x, pr0 = some x → x < 3) (hr1 : ∀ x, pr1 = some x → x < 3) (hr2 : ∀ x, pr2 = some x → x < 3) (hr3 : ∀ x, pr3 = some x → x < 3) (hw0 : inP pr0 pa0 ps0 c0 c1 c2 n0 n1 n2) (hw1 : inP pr1 pa1 ps1 c0 c1 c2 n0 n1 n2) (hw2 : inP pr2 pa2 ps2 c0 c1 c2 n0 n1 n2) (hw3 : inP pr3 pa3 ps3 c0 c1 c2 n0 n1 n2) : pw_Mp l yX2_oldPegs wsX2_oldPegs ({ frames := 2, cells := 0, slots := 0, locals := 41 } : Room) D cI cP cR [.ref h] ([(h, .inr (2, [.ref qr, .ref qp, .int (nI md), .int (r0), .int (r1), .int (r2), .int (r3)])), (qp, .inl (cP, 4, .inr (.inr (.inr (.inr (fun i => some (po i))))))), (po 0, .inr (0, [va_rf (pr0.map ro), .int (pa0), .int (ps0), .int (ph0), .int (pt0), .int (pm0)])), (po 1, .inr (0, [va_rf (pr1.map ro), .int (pa1), .int (ps1), .int (ph1), .int (pt1), .int (pm1)])), (po 2, .inr (0, [va_rf (pr2.map ro), .int (pa2), .int (ps2), .int (ph2), .int (pt2), .int (pm2)])), (po 3, .inr (0, [va_rf (pr3.map ro), .int (pa3), .int (ps3), .int (ph3), .int (pt3), .int (pm3)])), (ro 0, .inr (1, [.ref a0, .int (nI n0), .int (c0)])), (a0, .inl (cI, 60, .inl (f0))), (ro 1, .inr (1, [.ref a1, .int (nI n1), .int (c1)])), (a1, .inl (cI, 60, .inl (f1))), (ro 2, .inr (1, [.ref a2, .int (nI n2), .int (c2)])), (a2, .inl (cI, 60, .inl (f2)))]) (.int (nI (oldP pr0 ps0 c0 c1 c2 + oldP pr1 ps1 c0 c1 c2 + oldP pr2 ps2 c0 c1 c2 + oldP pr3 ps3 c0 c1 c2))) := by
  refine pw_ofp (cc := cX2_oldPegs) (maxL := 3) (ret := (some .int)) (own := RX2) (by decide +kernel) rfl rfl (Nat.le_of_ble_eq_true rfl) ?_
  intro p_ e_ s m bel meth cd hE hK hP hD ls hl
  obtain ⟨hx, hb, hr, hml, hown, hts, hlocks⟩ := hE
  have hNW := hK.2
  have hl : lv_has ls 3 [(0, .ref h)] := hl
  refine lv_iconst (v := nI 0) hx hb dX2_oldPegs_0 (by decide) ?_
  refine lv_istore_n (lv' := [(1, .int (nI 0)), (0, .ref h)]) hx hb dX2_oldPegs_1 rfl hl (by decide) rfl (fun ls hl => ?_)
  refine lv_iconst (v := nI 0) hx hb dX2_oldPegs_2 (by decide) ?_
  refine lv_istore_n (lv' := [(2, .int (nI 0)), (1, .int (nI 0)), (0, .ref h)]) hx hb dX2_oldPegs_3 rfl hl (by decide) rfl (fun ls hl => ?_)
  refine lv_iload_n hx hb dX2_oldPegs_4 rfl (lv_at hl 0 rfl) ?_
  refine lv_aload_n hx hb dX2_oldPegs_5 rfl (lv_at hl 2 rfl) ?_
  refine va_get (D := D) (ci := 2) (v := .ref qp) (C := RX2) (T := TX2) (N := 7) hx hb hts hi_X2_oldPegs_2 hown hK.1 hP 0 rfl rfl 1 (by decide) (hts _ hf_X2_oldPegs_17) (fun _ h9 => h9) rfl dX2_oldPegs_6 ?_
  refine va_alen (v := nI 4) hx hb hK.1 hP 1 1 rfl rfl rfl dX2_oldPegs_9 ?_
  refine lv_icmp_ge (tgt := 34) hx hb dX2_oldPegs_10 (by decide) (fun c => absurd c (by decide)) (fun c => ?_)
  refine lv_aload_n hx hb dX2_oldPegs_13 rfl (lv_at hl 2 rfl) ?_
  refine va_get (D := D) (ci := 2) (v := .ref qp) (C := RX2) (T := TX2) (N := 7) hx hb hts hi_X2_oldPegs_2 hown hK.1 hP 0 rfl rfl 1 (by decide) (hts _ hf_X2_oldPegs_17) (fun _ h9 => h9) rfl dX2_oldPegs_14 ?_
  refine lv_iload_n hx hb dX2_oldPegs_17 rfl (lv_at hl 0 rfl) ?_
  refine pw_aldq hx hb hK.1 hP 1 1 rfl rfl (by decide) (by omega) dX2_oldPegs_18 ?_
  have ho0 : oldP pr0 ps0 c0 c1 c2 < 2 := by unfold oldP; split <;> (try split) <;> omega
  -- c_oldK0
  refine pw_cVp (As := []) (rest := []) (wc := [(po 0, .inr (0, [va_rf (pr0.map ro), .int (pa0), .int (ps0), .int (ph0), .int (pt0), .int (pm0)])), (po 1, .inr (0, [va_rf (pr1.map ro), .int (pa1), .int (ps1), .int (ph1), .int (pt1), .int (pm1)])), (po 2, .inr (0, [va_rf (pr2.map ro), .int (pa2), .int (ps2), .int (ph2), .int (pt2), .int (pm2)])), (po 3, .inr (0, [va_rf (pr3.map ro), .int (pa3), .int (ps3), .int (ph3), .int (pt3), .int (pm3)])), (ro 0, .inr (1, [.ref a0, .int (nI n0), .int (c0)])), (a0, .inl (cI, 60, .inl (f0))), (ro 1, .inr (1, [.ref a1, .int (nI n1), .int (c1)])), (a1, .inl (cI, 60, .inl (f1))), (ro 2, .inr (1, [.ref a2, .int (nI n2), .int (c2)])), (a2, .inl (cI, 60, .inl (f2)))]) ⟨hx, hb, hml, hown, hts⟩ (c_oldK0 l D cI cP cR h qr qp md r0 r1 r2 r3 po ro pr0 pa0 ps0 ph0 pt0 pm0 pr1 pa1 ps1 ph1 pt1 pm1 pr2 pa2 ps2 ph2 pt2 pm2 pr3 pa3 ps3 ph3 pt3 pm3 a0 a1 a2 n0 n1 n2 c0 c1 c2 f0 f1 f2 hr0 hw0) (cwV 0 hts gX2_oldPegs_X0_isOld rfl rfl rfl (by decide +kernel) ⟨Nat.le_of_ble_eq_true rfl, Nat.le_of_ble_eq_true rfl⟩) hK hP hD [2, 3, 4, 5, 6, 7, 8, 9, 10, 11] rfl (by decide) 0 rfl rfl rfl rfl hl.1 rfl (Nat.le_of_ble_eq_true rfl) dX2_oldPegs_19 ⟨Nat.zero_le _, Nat.zero_le _⟩ ?_
  refine pw_if_eq (tgt := 28) hx hb (by omega) dX2_oldPegs_22 (by decide) (fun c_1 => ?_) (fun c_1 => ?_)
  · have _h := c_1
    refine lv_iinc (v := nI 1) (lv' := [(2, .int (nI 1)), (1, .int (nI 0)), (0, .ref h)]) hx hb dX2_oldPegs_28 hl (k := 0) rfl (pw_inc _ 1) (by decide) rfl (fun ls hl => ?_)
    refine lv_goto (tgt := 4) hx hb dX2_oldPegs_31 (by decide) ?_
    refine lv_iload_n hx hb dX2_oldPegs_4 rfl (lv_at hl 0 rfl) ?_
    refine lv_aload_n hx hb dX2_oldPegs_5 rfl (lv_at hl 2 rfl) ?_
    refine va_get (D := D) (ci := 2) (v := .ref qp) (C := RX2) (T := TX2) (N := 7) hx hb hts hi_X2_oldPegs_2 hown hK.1 hP 0 rfl rfl 1 (by decide) (hts _ hf_X2_oldPegs_17) (fun _ h9 => h9) rfl dX2_oldPegs_6 ?_
    refine va_alen (v := nI 4) hx hb hK.1 hP 1 1 rfl rfl rfl dX2_oldPegs_9 ?_
    refine lv_icmp_ge (tgt := 34) hx hb dX2_oldPegs_10 (by decide) (fun c => absurd c (by decide)) (fun c => ?_)
    refine lv_aload_n hx hb dX2_oldPegs_13 rfl (lv_at hl 2 rfl) ?_
    refine va_get (D := D) (ci := 2) (v := .ref qp) (C := RX2) (T := TX2) (N := 7) hx hb hts hi_X2_oldPegs_2 hown hK.1 hP 0 rfl rfl 1 (by decide) (hts _ hf_X2_oldPegs_17) (fun _ h9 => h9) rfl dX2_oldPegs_14 ?_
    refine lv_iload_n hx hb dX2_oldPegs_17 rfl (lv_at hl 0 rfl) ?_
    refine pw_aldq hx hb hK.1 hP 1 1 rfl rfl (by decide) (by omega) dX2_oldPegs_18 ?_
    have ho1 : oldP pr1 ps1 c0 c1 c2 < 2 := by unfold oldP; split <;> (try split) <;> omega
    -- c_oldK1
    refine pw_cVp (As := []) (rest := []) (wc := [(po 0, .inr (0, [va_rf (pr0.map ro), .int (pa0), .int (ps0), .int (ph0), .int (pt0), .int (pm0)])), (po 1, .inr (0, [va_rf (pr1.map ro), .int (pa1), .int (ps1), .int (ph1), .int (pt1), .int (pm1)])), (po 2, .inr (0, [va_rf (pr2.map ro), .int (pa2), .int (ps2), .int (ph2), .int (pt2), .int (pm2)])), (po 3, .inr (0, [va_rf (pr3.map ro), .int (pa3), .int (ps3), .int (ph3), .int (pt3), .int (pm3)])), (ro 0, .inr (1, [.ref a0, .int (nI n0), .int (c0)])), (a0, .inl (cI, 60, .inl (f0))), (ro 1, .inr (1, [.ref a1, .int (nI n1), .int (c1)])), (a1, .inl (cI, 60, .inl (f1))), (ro 2, .inr (1, [.ref a2, .int (nI n2), .int (c2)])), (a2, .inl (cI, 60, .inl (f2)))]) ⟨hx, hb, hml, hown, hts⟩ (c_oldK1 l D cI cP cR h qr qp md r0 r1 r2 r3 po ro pr0 pa0 ps0 ph0 pt0 pm0 pr1 pa1 ps1 ph1 pt1 pm1 pr2 pa2 ps2 ph2 pt2 pm2 pr3 pa3 ps3 ph3 pt3 pm3 a0 a1 a2 n0 n1 n2 c0 c1 c2 f0 f1 f2 hr1 hw1) (cwV 0 hts gX2_oldPegs_X0_isOld rfl rfl rfl (by decide +kernel) ⟨Nat.le_of_ble_eq_true rfl, Nat.le_of_ble_eq_true rfl⟩) hK hP hD [2, 3, 4, 5, 6, 7, 8, 9, 10, 11] rfl (by decide) 1 rfl rfl rfl rfl hl.1 rfl (Nat.le_of_ble_eq_true rfl) dX2_oldPegs_19 ⟨Nat.zero_le _, Nat.zero_le _⟩ ?_
    refine pw_if_eq (tgt := 28) hx hb (by omega) dX2_oldPegs_22 (by decide) (fun c_2 => ?_) (fun c_2 => ?_)
    · have _h := c_2
      refine lv_iinc (v := nI 2) (lv' := [(2, .int (nI 2)), (1, .int (nI 0)), (0, .ref h)]) hx hb dX2_oldPegs_28 hl (k := 0) rfl (pw_inc _ 1) (by decide) rfl (fun ls hl => ?_)
      refine lv_goto (tgt := 4) hx hb dX2_oldPegs_31 (by decide) ?_
      refine lv_iload_n hx hb dX2_oldPegs_4 rfl (lv_at hl 0 rfl) ?_
      refine lv_aload_n hx hb dX2_oldPegs_5 rfl (lv_at hl 2 rfl) ?_
      refine va_get (D := D) (ci := 2) (v := .ref qp) (C := RX2) (T := TX2) (N := 7) hx hb hts hi_X2_oldPegs_2 hown hK.1 hP 0 rfl rfl 1 (by decide) (hts _ hf_X2_oldPegs_17) (fun _ h9 => h9) rfl dX2_oldPegs_6 ?_
      refine va_alen (v := nI 4) hx hb hK.1 hP 1 1 rfl rfl rfl dX2_oldPegs_9 ?_
      refine lv_icmp_ge (tgt := 34) hx hb dX2_oldPegs_10 (by decide) (fun c => absurd c (by decide)) (fun c => ?_)
      refine lv_aload_n hx hb dX2_oldPegs_13 rfl (lv_at hl 2 rfl) ?_
      refine va_get (D := D) (ci := 2) (v := .ref qp) (C := RX2) (T := TX2) (N := 7) hx hb hts hi_X2_oldPegs_2 hown hK.1 hP 0 rfl rfl 1 (by decide) (hts _ hf_X2_oldPegs_17) (fun _ h9 => h9) rfl dX2_oldPegs_14 ?_
      refine lv_iload_n hx hb dX2_oldPegs_17 rfl (lv_at hl 0 rfl) ?_
      refine pw_aldq hx hb hK.1 hP 1 1 rfl rfl (by decide) (by omega) dX2_oldPegs_18 ?_
      have ho2 : oldP pr2 ps2 c0 c1 c2 < 2 := by unfold oldP; split <;> (try split) <;> omega
      -- c_oldK2
      refine pw_cVp (As := []) (rest := []) (wc := [(po 0, .inr (0, [va_rf (pr0.map ro), .int (pa0), .int (ps0), .int (ph0), .int (pt0), .int (pm0)])), (po 1, .inr (0, [va_rf (pr1.map ro), .int (pa1), .int (ps1), .int (ph1), .int (pt1), .int (pm1)])), (po 2, .inr (0, [va_rf (pr2.map ro), .int (pa2), .int (ps2), .int (ph2), .int (pt2), .int (pm2)])), (po 3, .inr (0, [va_rf (pr3.map ro), .int (pa3), .int (ps3), .int (ph3), .int (pt3), .int (pm3)])), (ro 0, .inr (1, [.ref a0, .int (nI n0), .int (c0)])), (a0, .inl (cI, 60, .inl (f0))), (ro 1, .inr (1, [.ref a1, .int (nI n1), .int (c1)])), (a1, .inl (cI, 60, .inl (f1))), (ro 2, .inr (1, [.ref a2, .int (nI n2), .int (c2)])), (a2, .inl (cI, 60, .inl (f2)))]) ⟨hx, hb, hml, hown, hts⟩ (c_oldK2 l D cI cP cR h qr qp md r0 r1 r2 r3 po ro pr0 pa0 ps0 ph0 pt0 pm0 pr1 pa1 ps1 ph1 pt1 pm1 pr2 pa2 ps2 ph2 pt2 pm2 pr3 pa3 ps3 ph3 pt3 pm3 a0 a1 a2 n0 n1 n2 c0 c1 c2 f0 f1 f2 hr2 hw2) (cwV 0 hts gX2_oldPegs_X0_isOld rfl rfl rfl (by decide +kernel) ⟨Nat.le_of_ble_eq_true rfl, Nat.le_of_ble_eq_true rfl⟩) hK hP hD [2, 3, 4, 5, 6, 7, 8, 9, 10, 11] rfl (by decide) 2 rfl rfl rfl rfl hl.1 rfl (Nat.le_of_ble_eq_true rfl) dX2_oldPegs_19 ⟨Nat.zero_le _, Nat.zero_le _⟩ ?_
      refine pw_if_eq (tgt := 28) hx hb (by omega) dX2_oldPegs_22 (by decide) (fun c_3 => ?_) (fun c_3 => ?_)
      · have _h := c_3
        refine lv_iinc (v := nI 3) (lv' := [(2, .int (nI 3)), (1, .int (nI 0)), (0, .ref h)]) hx hb dX2_oldPegs_28 hl (k := 0) rfl (pw_inc _ 1) (by decide) rfl (fun ls hl => ?_)
        refine lv_goto (tgt := 4) hx hb dX2_oldPegs_31 (by decide) ?_
        refine lv_iload_n hx hb dX2_oldPegs_4 rfl (lv_at hl 0 rfl) ?_
        refine lv_aload_n hx hb dX2_oldPegs_5 rfl (lv_at hl 2 rfl) ?_
        refine va_get (D := D) (ci := 2) (v := .ref qp) (C := RX2) (T := TX2) (N := 7) hx hb hts hi_X2_oldPegs_2 hown hK.1 hP 0 rfl rfl 1 (by decide) (hts _ hf_X2_oldPegs_17) (fun _ h9 => h9) rfl dX2_oldPegs_6 ?_
        refine va_alen (v := nI 4) hx hb hK.1 hP 1 1 rfl rfl rfl dX2_oldPegs_9 ?_
        refine lv_icmp_ge (tgt := 34) hx hb dX2_oldPegs_10 (by decide) (fun c => absurd c (by decide)) (fun c => ?_)
        refine lv_aload_n hx hb dX2_oldPegs_13 rfl (lv_at hl 2 rfl) ?_
        refine va_get (D := D) (ci := 2) (v := .ref qp) (C := RX2) (T := TX2) (N := 7) hx hb hts hi_X2_oldPegs_2 hown hK.1 hP 0 rfl rfl 1 (by decide) (hts _ hf_X2_oldPegs_17) (fun _ h9 => h9) rfl dX2_oldPegs_14 ?_
        refine lv_iload_n hx hb dX2_oldPegs_17 rfl (lv_at hl 0 rfl) ?_
        refine pw_aldq hx hb hK.1 hP 1 1 rfl rfl (by decide) (by omega) dX2_oldPegs_18 ?_
        have ho3 : oldP pr3 ps3 c0 c1 c2 < 2 := by unfold oldP; split <;> (try split) <;> omega
        -- c_oldK3
        refine pw_cVp (As := []) (rest := []) (wc := [(po 0, .inr (0, [va_rf (pr0.map ro), .int (pa0), .int (ps0), .int (ph0), .int (pt0), .int (pm0)])), (po 1, .inr (0, [va_rf (pr1.map ro), .int (pa1), .int (ps1), .int (ph1), .int (pt1), .int (pm1)])), (po 2, .inr (0, [va_rf (pr2.map ro), .int (pa2), .int (ps2), .int (ph2), .int (pt2), .int (pm2)])), (po 3, .inr (0, [va_rf (pr3.map ro), .int (pa3), .int (ps3), .int (ph3), .int (pt3), .int (pm3)])), (ro 0, .inr (1, [.ref a0, .int (nI n0), .int (c0)])), (a0, .inl (cI, 60, .inl (f0))), (ro 1, .inr (1, [.ref a1, .int (nI n1), .int (c1)])), (a1, .inl (cI, 60, .inl (f1))), (ro 2, .inr (1, [.ref a2, .int (nI n2), .int (c2)])), (a2, .inl (cI, 60, .inl (f2)))]) ⟨hx, hb, hml, hown, hts⟩ (c_oldK3 l D cI cP cR h qr qp md r0 r1 r2 r3 po ro pr0 pa0 ps0 ph0 pt0 pm0 pr1 pa1 ps1 ph1 pt1 pm1 pr2 pa2 ps2 ph2 pt2 pm2 pr3 pa3 ps3 ph3 pt3 pm3 a0 a1 a2 n0 n1 n2 c0 c1 c2 f0 f1 f2 hr3 hw3) (cwV 0 hts gX2_oldPegs_X0_isOld rfl rfl rfl (by decide +kernel) ⟨Nat.le_of_ble_eq_true rfl, Nat.le_of_ble_eq_true rfl⟩) hK hP hD [2, 3, 4, 5, 6, 7, 8, 9, 10, 11] rfl (by decide) 3 rfl rfl rfl rfl hl.1 rfl (Nat.le_of_ble_eq_true rfl) dX2_oldPegs_19 ⟨Nat.zero_le _, Nat.zero_le _⟩ ?_
        refine pw_if_eq (tgt := 28) hx hb (by omega) dX2_oldPegs_22 (by decide) (fun c_4 => ?_) (fun c_4 => ?_)
        · have _h := c_4
          refine lv_iinc (v := nI 4) (lv' := [(2, .int (nI 4)), (1, .int (nI 0)), (0, .ref h)]) hx hb dX2_oldPegs_28 hl (k := 0) rfl (pw_inc _ 1) (by decide) rfl (fun ls hl => ?_)
          refine lv_goto (tgt := 4) hx hb dX2_oldPegs_31 (by decide) ?_
          refine lv_iload_n hx hb dX2_oldPegs_4 rfl (lv_at hl 0 rfl) ?_
          refine lv_aload_n hx hb dX2_oldPegs_5 rfl (lv_at hl 2 rfl) ?_
          refine va_get (D := D) (ci := 2) (v := .ref qp) (C := RX2) (T := TX2) (N := 7) hx hb hts hi_X2_oldPegs_2 hown hK.1 hP 0 rfl rfl 1 (by decide) (hts _ hf_X2_oldPegs_17) (fun _ h9 => h9) rfl dX2_oldPegs_6 ?_
          refine va_alen (v := nI 4) hx hb hK.1 hP 1 1 rfl rfl rfl dX2_oldPegs_9 ?_
          refine lv_icmp_ge (tgt := 34) hx hb dX2_oldPegs_10 (by decide) (fun c => ?_) (fun c => absurd c (by decide))
          refine lv_iload_n hx hb dX2_oldPegs_34 rfl (lv_at hl 1 rfl) ?_
          exact pw_piret hx hb hr (rfl) hlocks dX2_oldPegs_35 (congrArg (fun z => Value.int (nI z)) (by omega))
        · have _h := c_4
          refine lv_iinc (v := nI 1) (lv' := [(1, .int (nI 1)), (2, .int (nI 3)), (0, .ref h)]) hx hb dX2_oldPegs_25 hl (k := 1) rfl (pw_inc _ 1) (by decide) rfl (fun ls hl => ?_)
          refine lv_iinc (v := nI 4) (lv' := [(2, .int (nI 4)), (1, .int (nI 1)), (0, .ref h)]) hx hb dX2_oldPegs_28 hl (k := 1) rfl (pw_inc _ 1) (by decide) rfl (fun ls hl => ?_)
          refine lv_goto (tgt := 4) hx hb dX2_oldPegs_31 (by decide) ?_
          refine lv_iload_n hx hb dX2_oldPegs_4 rfl (lv_at hl 0 rfl) ?_
          refine lv_aload_n hx hb dX2_oldPegs_5 rfl (lv_at hl 2 rfl) ?_
          refine va_get (D := D) (ci := 2) (v := .ref qp) (C := RX2) (T := TX2) (N := 7) hx hb hts hi_X2_oldPegs_2 hown hK.1 hP 0 rfl rfl 1 (by decide) (hts _ hf_X2_oldPegs_17) (fun _ h9 => h9) rfl dX2_oldPegs_6 ?_
          refine va_alen (v := nI 4) hx hb hK.1 hP 1 1 rfl rfl rfl dX2_oldPegs_9 ?_
          refine lv_icmp_ge (tgt := 34) hx hb dX2_oldPegs_10 (by decide) (fun c => ?_) (fun c => absurd c (by decide))
          refine lv_iload_n hx hb dX2_oldPegs_34 rfl (lv_at hl 1 rfl) ?_
          exact pw_piret hx hb hr (rfl) hlocks dX2_oldPegs_35 (congrArg (fun z => Value.int (nI z)) (by omega))
      · have _h := c_3
        refine lv_iinc (v := nI 1) (lv' := [(1, .int (nI 1)), (2, .int (nI 2)), (0, .ref h)]) hx hb dX2_oldPegs_25 hl (k := 1) rfl (pw_inc _ 1) (by decide) rfl (fun ls hl => ?_)
        refine lv_iinc (v := nI 3) (lv' := [(2, .int (nI 3)), (1, .int (nI 1)), (0, .ref h)]) hx hb dX2_oldPegs_28 hl (k := 1) rfl (pw_inc _ 1) (by decide) rfl (fun ls hl => ?_)
        refine lv_goto (tgt := 4) hx hb dX2_oldPegs_31 (by decide) ?_
        refine lv_iload_n hx hb dX2_oldPegs_4 rfl (lv_at hl 0 rfl) ?_
        refine lv_aload_n hx hb dX2_oldPegs_5 rfl (lv_at hl 2 rfl) ?_
        refine va_get (D := D) (ci := 2) (v := .ref qp) (C := RX2) (T := TX2) (N := 7) hx hb hts hi_X2_oldPegs_2 hown hK.1 hP 0 rfl rfl 1 (by decide) (hts _ hf_X2_oldPegs_17) (fun _ h9 => h9) rfl dX2_oldPegs_6 ?_
        refine va_alen (v := nI 4) hx hb hK.1 hP 1 1 rfl rfl rfl dX2_oldPegs_9 ?_
        refine lv_icmp_ge (tgt := 34) hx hb dX2_oldPegs_10 (by decide) (fun c => absurd c (by decide)) (fun c => ?_)
        refine lv_aload_n hx hb dX2_oldPegs_13 rfl (lv_at hl 2 rfl) ?_
        refine va_get (D := D) (ci := 2) (v := .ref qp) (C := RX2) (T := TX2) (N := 7) hx hb hts hi_X2_oldPegs_2 hown hK.1 hP 0 rfl rfl 1 (by decide) (hts _ hf_X2_oldPegs_17) (fun _ h9 => h9) rfl dX2_oldPegs_14 ?_
        refine lv_iload_n hx hb dX2_oldPegs_17 rfl (lv_at hl 0 rfl) ?_
        refine pw_aldq hx hb hK.1 hP 1 1 rfl rfl (by decide) (by omega) dX2_oldPegs_18 ?_
        have ho3 : oldP pr3 ps3 c0 c1 c2 < 2 := by unfold oldP; split <;> (try split) <;> omega
        -- c_oldK3
        refine pw_cVp (As := []) (rest := []) (wc := [(po 0, .inr (0, [va_rf (pr0.map ro), .int (pa0), .int (ps0), .int (ph0), .int (pt0), .int (pm0)])), (po 1, .inr (0, [va_rf (pr1.map ro), .int (pa1), .int (ps1), .int (ph1), .int (pt1), .int (pm1)])), (po 2, .inr (0, [va_rf (pr2.map ro), .int (pa2), .int (ps2), .int (ph2), .int (pt2), .int (pm2)])), (po 3, .inr (0, [va_rf (pr3.map ro), .int (pa3), .int (ps3), .int (ph3), .int (pt3), .int (pm3)])), (ro 0, .inr (1, [.ref a0, .int (nI n0), .int (c0)])), (a0, .inl (cI, 60, .inl (f0))), (ro 1, .inr (1, [.ref a1, .int (nI n1), .int (c1)])), (a1, .inl (cI, 60, .inl (f1))), (ro 2, .inr (1, [.ref a2, .int (nI n2), .int (c2)])), (a2, .inl (cI, 60, .inl (f2)))]) ⟨hx, hb, hml, hown, hts⟩ (c_oldK3 l D cI cP cR h qr qp md r0 r1 r2 r3 po ro pr0 pa0 ps0 ph0 pt0 pm0 pr1 pa1 ps1 ph1 pt1 pm1 pr2 pa2 ps2 ph2 pt2 pm2 pr3 pa3 ps3 ph3 pt3 pm3 a0 a1 a2 n0 n1 n2 c0 c1 c2 f0 f1 f2 hr3 hw3) (cwV 0 hts gX2_oldPegs_X0_isOld rfl rfl rfl (by decide +kernel) ⟨Nat.le_of_ble_eq_true rfl, Nat.le_of_ble_eq_true rfl⟩) hK hP hD [2, 3, 4, 5, 6, 7, 8, 9, 10, 11] rfl (by decide) 3 rfl rfl rfl rfl hl.1 rfl (Nat.le_of_ble_eq_true rfl) dX2_oldPegs_19 ⟨Nat.zero_le _, Nat.zero_le _⟩ ?_
        refine pw_if_eq (tgt := 28) hx hb (by omega) dX2_oldPegs_22 (by decide) (fun c_5 => ?_) (fun c_5 => ?_)
        · have _h := c_5
          refine lv_iinc (v := nI 4) (lv' := [(2, .int (nI 4)), (1, .int (nI 1)), (0, .ref h)]) hx hb dX2_oldPegs_28 hl (k := 0) rfl (pw_inc _ 1) (by decide) rfl (fun ls hl => ?_)
          refine lv_goto (tgt := 4) hx hb dX2_oldPegs_31 (by decide) ?_
          refine lv_iload_n hx hb dX2_oldPegs_4 rfl (lv_at hl 0 rfl) ?_
          refine lv_aload_n hx hb dX2_oldPegs_5 rfl (lv_at hl 2 rfl) ?_
          refine va_get (D := D) (ci := 2) (v := .ref qp) (C := RX2) (T := TX2) (N := 7) hx hb hts hi_X2_oldPegs_2 hown hK.1 hP 0 rfl rfl 1 (by decide) (hts _ hf_X2_oldPegs_17) (fun _ h9 => h9) rfl dX2_oldPegs_6 ?_
          refine va_alen (v := nI 4) hx hb hK.1 hP 1 1 rfl rfl rfl dX2_oldPegs_9 ?_
          refine lv_icmp_ge (tgt := 34) hx hb dX2_oldPegs_10 (by decide) (fun c => ?_) (fun c => absurd c (by decide))
          refine lv_iload_n hx hb dX2_oldPegs_34 rfl (lv_at hl 1 rfl) ?_
          exact pw_piret hx hb hr (rfl) hlocks dX2_oldPegs_35 (congrArg (fun z => Value.int (nI z)) (by omega))
        · have _h := c_5
          refine lv_iinc (v := nI 2) (lv' := [(1, .int (nI 2)), (2, .int (nI 3)), (0, .ref h)]) hx hb dX2_oldPegs_25 hl (k := 1) rfl (pw_inc _ 1) (by decide) rfl (fun ls hl => ?_)
          refine lv_iinc (v := nI 4) (lv' := [(2, .int (nI 4)), (1, .int (nI 2)), (0, .ref h)]) hx hb dX2_oldPegs_28 hl (k := 1) rfl (pw_inc _ 1) (by decide) rfl (fun ls hl => ?_)
          refine lv_goto (tgt := 4) hx hb dX2_oldPegs_31 (by decide) ?_
          refine lv_iload_n hx hb dX2_oldPegs_4 rfl (lv_at hl 0 rfl) ?_
          refine lv_aload_n hx hb dX2_oldPegs_5 rfl (lv_at hl 2 rfl) ?_
          refine va_get (D := D) (ci := 2) (v := .ref qp) (C := RX2) (T := TX2) (N := 7) hx hb hts hi_X2_oldPegs_2 hown hK.1 hP 0 rfl rfl 1 (by decide) (hts _ hf_X2_oldPegs_17) (fun _ h9 => h9) rfl dX2_oldPegs_6 ?_
          refine va_alen (v := nI 4) hx hb hK.1 hP 1 1 rfl rfl rfl dX2_oldPegs_9 ?_
          refine lv_icmp_ge (tgt := 34) hx hb dX2_oldPegs_10 (by decide) (fun c => ?_) (fun c => absurd c (by decide))
          refine lv_iload_n hx hb dX2_oldPegs_34 rfl (lv_at hl 1 rfl) ?_
          exact pw_piret hx hb hr (rfl) hlocks dX2_oldPegs_35 (congrArg (fun z => Value.int (nI z)) (by omega))
    · have _h := c_2
      refine lv_iinc (v := nI 1) (lv' := [(1, .int (nI 1)), (2, .int (nI 1)), (0, .ref h)]) hx hb dX2_oldPegs_25 hl (k := 1) rfl (pw_inc _ 1) (by decide) rfl (fun ls hl => ?_)
      refine lv_iinc (v := nI 2) (lv' := [(2, .int (nI 2)), (1, .int (nI 1)), (0, .ref h)]) hx hb dX2_oldPegs_28 hl (k := 1) rfl (pw_inc _ 1) (by decide) rfl (fun ls hl => ?_)
      refine lv_goto (tgt := 4) hx hb dX2_oldPegs_31 (by decide) ?_
      refine lv_iload_n hx hb dX2_oldPegs_4 rfl (lv_at hl 0 rfl) ?_
      refine lv_aload_n hx hb dX2_oldPegs_5 rfl (lv_at hl 2 rfl) ?_
      refine va_get (D := D) (ci := 2) (v := .ref qp) (C := RX2) (T := TX2) (N := 7) hx hb hts hi_X2_oldPegs_2 hown hK.1 hP 0 rfl rfl 1 (by decide) (hts _ hf_X2_oldPegs_17) (fun _ h9 => h9) rfl dX2_oldPegs_6 ?_
      refine va_alen (v := nI 4) hx hb hK.1 hP 1 1 rfl rfl rfl dX2_oldPegs_9 ?_
      refine lv_icmp_ge (tgt := 34) hx hb dX2_oldPegs_10 (by decide) (fun c => absurd c (by decide)) (fun c => ?_)
      refine lv_aload_n hx hb dX2_oldPegs_13 rfl (lv_at hl 2 rfl) ?_
      refine va_get (D := D) (ci := 2) (v := .ref qp) (C := RX2) (T := TX2) (N := 7) hx hb hts hi_X2_oldPegs_2 hown hK.1 hP 0 rfl rfl 1 (by decide) (hts _ hf_X2_oldPegs_17) (fun _ h9 => h9) rfl dX2_oldPegs_14 ?_
      refine lv_iload_n hx hb dX2_oldPegs_17 rfl (lv_at hl 0 rfl) ?_
      refine pw_aldq hx hb hK.1 hP 1 1 rfl rfl (by decide) (by omega) dX2_oldPegs_18 ?_
      have ho2 : oldP pr2 ps2 c0 c1 c2 < 2 := by unfold oldP; split <;> (try split) <;> omega
      -- c_oldK2
      refine pw_cVp (As := []) (rest := []) (wc := [(po 0, .inr (0, [va_rf (pr0.map ro), .int (pa0), .int (ps0), .int (ph0), .int (pt0), .int (pm0)])), (po 1, .inr (0, [va_rf (pr1.map ro), .int (pa1), .int (ps1), .int (ph1), .int (pt1), .int (pm1)])), (po 2, .inr (0, [va_rf (pr2.map ro), .int (pa2), .int (ps2), .int (ph2), .int (pt2), .int (pm2)])), (po 3, .inr (0, [va_rf (pr3.map ro), .int (pa3), .int (ps3), .int (ph3), .int (pt3), .int (pm3)])), (ro 0, .inr (1, [.ref a0, .int (nI n0), .int (c0)])), (a0, .inl (cI, 60, .inl (f0))), (ro 1, .inr (1, [.ref a1, .int (nI n1), .int (c1)])), (a1, .inl (cI, 60, .inl (f1))), (ro 2, .inr (1, [.ref a2, .int (nI n2), .int (c2)])), (a2, .inl (cI, 60, .inl (f2)))]) ⟨hx, hb, hml, hown, hts⟩ (c_oldK2 l D cI cP cR h qr qp md r0 r1 r2 r3 po ro pr0 pa0 ps0 ph0 pt0 pm0 pr1 pa1 ps1 ph1 pt1 pm1 pr2 pa2 ps2 ph2 pt2 pm2 pr3 pa3 ps3 ph3 pt3 pm3 a0 a1 a2 n0 n1 n2 c0 c1 c2 f0 f1 f2 hr2 hw2) (cwV 0 hts gX2_oldPegs_X0_isOld rfl rfl rfl (by decide +kernel) ⟨Nat.le_of_ble_eq_true rfl, Nat.le_of_ble_eq_true rfl⟩) hK hP hD [2, 3, 4, 5, 6, 7, 8, 9, 10, 11] rfl (by decide) 2 rfl rfl rfl rfl hl.1 rfl (Nat.le_of_ble_eq_true rfl) dX2_oldPegs_19 ⟨Nat.zero_le _, Nat.zero_le _⟩ ?_
      refine pw_if_eq (tgt := 28) hx hb (by omega) dX2_oldPegs_22 (by decide) (fun c_6 => ?_) (fun c_6 => ?_)
      · have _h := c_6
        refine lv_iinc (v := nI 3) (lv' := [(2, .int (nI 3)), (1, .int (nI 1)), (0, .ref h)]) hx hb dX2_oldPegs_28 hl (k := 0) rfl (pw_inc _ 1) (by decide) rfl (fun ls hl => ?_)
        refine lv_goto (tgt := 4) hx hb dX2_oldPegs_31 (by decide) ?_
        refine lv_iload_n hx hb dX2_oldPegs_4 rfl (lv_at hl 0 rfl) ?_
        refine lv_aload_n hx hb dX2_oldPegs_5 rfl (lv_at hl 2 rfl) ?_
        refine va_get (D := D) (ci := 2) (v := .ref qp) (C := RX2) (T := TX2) (N := 7) hx hb hts hi_X2_oldPegs_2 hown hK.1 hP 0 rfl rfl 1 (by decide) (hts _ hf_X2_oldPegs_17) (fun _ h9 => h9) rfl dX2_oldPegs_6 ?_
        refine va_alen (v := nI 4) hx hb hK.1 hP 1 1 rfl rfl rfl dX2_oldPegs_9 ?_
        refine lv_icmp_ge (tgt := 34) hx hb dX2_oldPegs_10 (by decide) (fun c => absurd c (by decide)) (fun c => ?_)
        refine lv_aload_n hx hb dX2_oldPegs_13 rfl (lv_at hl 2 rfl) ?_
        refine va_get (D := D) (ci := 2) (v := .ref qp) (C := RX2) (T := TX2) (N := 7) hx hb hts hi_X2_oldPegs_2 hown hK.1 hP 0 rfl rfl 1 (by decide) (hts _ hf_X2_oldPegs_17) (fun _ h9 => h9) rfl dX2_oldPegs_14 ?_
        refine lv_iload_n hx hb dX2_oldPegs_17 rfl (lv_at hl 0 rfl) ?_
        refine pw_aldq hx hb hK.1 hP 1 1 rfl rfl (by decide) (by omega) dX2_oldPegs_18 ?_
        have ho3 : oldP pr3 ps3 c0 c1 c2 < 2 := by unfold oldP; split <;> (try split) <;> omega
        -- c_oldK3
        refine pw_cVp (As := []) (rest := []) (wc := [(po 0, .inr (0, [va_rf (pr0.map ro), .int (pa0), .int (ps0), .int (ph0), .int (pt0), .int (pm0)])), (po 1, .inr (0, [va_rf (pr1.map ro), .int (pa1), .int (ps1), .int (ph1), .int (pt1), .int (pm1)])), (po 2, .inr (0, [va_rf (pr2.map ro), .int (pa2), .int (ps2), .int (ph2), .int (pt2), .int (pm2)])), (po 3, .inr (0, [va_rf (pr3.map ro), .int (pa3), .int (ps3), .int (ph3), .int (pt3), .int (pm3)])), (ro 0, .inr (1, [.ref a0, .int (nI n0), .int (c0)])), (a0, .inl (cI, 60, .inl (f0))), (ro 1, .inr (1, [.ref a1, .int (nI n1), .int (c1)])), (a1, .inl (cI, 60, .inl (f1))), (ro 2, .inr (1, [.ref a2, .int (nI n2), .int (c2)])), (a2, .inl (cI, 60, .inl (f2)))]) ⟨hx, hb, hml, hown, hts⟩ (c_oldK3 l D cI cP cR h qr qp md r0 r1 r2 r3 po ro pr0 pa0 ps0 ph0 pt0 pm0 pr1 pa1 ps1 ph1 pt1 pm1 pr2 pa2 ps2 ph2 pt2 pm2 pr3 pa3 ps3 ph3 pt3 pm3 a0 a1 a2 n0 n1 n2 c0 c1 c2 f0 f1 f2 hr3 hw3) (cwV 0 hts gX2_oldPegs_X0_isOld rfl rfl rfl (by decide +kernel) ⟨Nat.le_of_ble_eq_true rfl, Nat.le_of_ble_eq_true rfl⟩) hK hP hD [2, 3, 4, 5, 6, 7, 8, 9, 10, 11] rfl (by decide) 3 rfl rfl rfl rfl hl.1 rfl (Nat.le_of_ble_eq_true rfl) dX2_oldPegs_19 ⟨Nat.zero_le _, Nat.zero_le _⟩ ?_
        refine pw_if_eq (tgt := 28) hx hb (by omega) dX2_oldPegs_22 (by decide) (fun c_7 => ?_) (fun c_7 => ?_)
        · have _h := c_7
          refine lv_iinc (v := nI 4) (lv' := [(2, .int (nI 4)), (1, .int (nI 1)), (0, .ref h)]) hx hb dX2_oldPegs_28 hl (k := 0) rfl (pw_inc _ 1) (by decide) rfl (fun ls hl => ?_)
          refine lv_goto (tgt := 4) hx hb dX2_oldPegs_31 (by decide) ?_
          refine lv_iload_n hx hb dX2_oldPegs_4 rfl (lv_at hl 0 rfl) ?_
          refine lv_aload_n hx hb dX2_oldPegs_5 rfl (lv_at hl 2 rfl) ?_
          refine va_get (D := D) (ci := 2) (v := .ref qp) (C := RX2) (T := TX2) (N := 7) hx hb hts hi_X2_oldPegs_2 hown hK.1 hP 0 rfl rfl 1 (by decide) (hts _ hf_X2_oldPegs_17) (fun _ h9 => h9) rfl dX2_oldPegs_6 ?_
          refine va_alen (v := nI 4) hx hb hK.1 hP 1 1 rfl rfl rfl dX2_oldPegs_9 ?_
          refine lv_icmp_ge (tgt := 34) hx hb dX2_oldPegs_10 (by decide) (fun c => ?_) (fun c => absurd c (by decide))
          refine lv_iload_n hx hb dX2_oldPegs_34 rfl (lv_at hl 1 rfl) ?_
          exact pw_piret hx hb hr (rfl) hlocks dX2_oldPegs_35 (congrArg (fun z => Value.int (nI z)) (by omega))
        · have _h := c_7
          refine lv_iinc (v := nI 2) (lv' := [(1, .int (nI 2)), (2, .int (nI 3)), (0, .ref h)]) hx hb dX2_oldPegs_25 hl (k := 1) rfl (pw_inc _ 1) (by decide) rfl (fun ls hl => ?_)
          refine lv_iinc (v := nI 4) (lv' := [(2, .int (nI 4)), (1, .int (nI 2)), (0, .ref h)]) hx hb dX2_oldPegs_28 hl (k := 1) rfl (pw_inc _ 1) (by decide) rfl (fun ls hl => ?_)
          refine lv_goto (tgt := 4) hx hb dX2_oldPegs_31 (by decide) ?_
          refine lv_iload_n hx hb dX2_oldPegs_4 rfl (lv_at hl 0 rfl) ?_
          refine lv_aload_n hx hb dX2_oldPegs_5 rfl (lv_at hl 2 rfl) ?_
          refine va_get (D := D) (ci := 2) (v := .ref qp) (C := RX2) (T := TX2) (N := 7) hx hb hts hi_X2_oldPegs_2 hown hK.1 hP 0 rfl rfl 1 (by decide) (hts _ hf_X2_oldPegs_17) (fun _ h9 => h9) rfl dX2_oldPegs_6 ?_
          refine va_alen (v := nI 4) hx hb hK.1 hP 1 1 rfl rfl rfl dX2_oldPegs_9 ?_
          refine lv_icmp_ge (tgt := 34) hx hb dX2_oldPegs_10 (by decide) (fun c => ?_) (fun c => absurd c (by decide))
          refine lv_iload_n hx hb dX2_oldPegs_34 rfl (lv_at hl 1 rfl) ?_
          exact pw_piret hx hb hr (rfl) hlocks dX2_oldPegs_35 (congrArg (fun z => Value.int (nI z)) (by omega))
      · have _h := c_6
        refine lv_iinc (v := nI 2) (lv' := [(1, .int (nI 2)), (2, .int (nI 2)), (0, .ref h)]) hx hb dX2_oldPegs_25 hl (k := 1) rfl (pw_inc _ 1) (by decide) rfl (fun ls hl => ?_)
        refine lv_iinc (v := nI 3) (lv' := [(2, .int (nI 3)), (1, .int (nI 2)), (0, .ref h)]) hx hb dX2_oldPegs_28 hl (k := 1) rfl (pw_inc _ 1) (by decide) rfl (fun ls hl => ?_)
        refine lv_goto (tgt := 4) hx hb dX2_oldPegs_31 (by decide) ?_
        refine lv_iload_n hx hb dX2_oldPegs_4 rfl (lv_at hl 0 rfl) ?_
        refine lv_aload_n hx hb dX2_oldPegs_5 rfl (lv_at hl 2 rfl) ?_
        refine va_get (D := D) (ci := 2) (v := .ref qp) (C := RX2) (T := TX2) (N := 7) hx hb hts hi_X2_oldPegs_2 hown hK.1 hP 0 rfl rfl 1 (by decide) (hts _ hf_X2_oldPegs_17) (fun _ h9 => h9) rfl dX2_oldPegs_6 ?_
        refine va_alen (v := nI 4) hx hb hK.1 hP 1 1 rfl rfl rfl dX2_oldPegs_9 ?_
        refine lv_icmp_ge (tgt := 34) hx hb dX2_oldPegs_10 (by decide) (fun c => absurd c (by decide)) (fun c => ?_)
        refine lv_aload_n hx hb dX2_oldPegs_13 rfl (lv_at hl 2 rfl) ?_
        refine va_get (D := D) (ci := 2) (v := .ref qp) (C := RX2) (T := TX2) (N := 7) hx hb hts hi_X2_oldPegs_2 hown hK.1 hP 0 rfl rfl 1 (by decide) (hts _ hf_X2_oldPegs_17) (fun _ h9 => h9) rfl dX2_oldPegs_14 ?_
        refine lv_iload_n hx hb dX2_oldPegs_17 rfl (lv_at hl 0 rfl) ?_
        refine pw_aldq hx hb hK.1 hP 1 1 rfl rfl (by decide) (by omega) dX2_oldPegs_18 ?_
        have ho3 : oldP pr3 ps3 c0 c1 c2 < 2 := by unfold oldP; split <;> (try split) <;> omega
        -- c_oldK3
        refine pw_cVp (As := []) (rest := []) (wc := [(po 0, .inr (0, [va_rf (pr0.map ro), .int (pa0), .int (ps0), .int (ph0), .int (pt0), .int (pm0)])), (po 1, .inr (0, [va_rf (pr1.map ro), .int (pa1), .int (ps1), .int (ph1), .int (pt1), .int (pm1)])), (po 2, .inr (0, [va_rf (pr2.map ro), .int (pa2), .int (ps2), .int (ph2), .int (pt2), .int (pm2)])), (po 3, .inr (0, [va_rf (pr3.map ro), .int (pa3), .int (ps3), .int (ph3), .int (pt3), .int (pm3)])), (ro 0, .inr (1, [.ref a0, .int (nI n0), .int (c0)])), (a0, .inl (cI, 60, .inl (f0))), (ro 1, .inr (1, [.ref a1, .int (nI n1), .int (c1)])), (a1, .inl (cI, 60, .inl (f1))), (ro 2, .inr (1, [.ref a2, .int (nI n2), .int (c2)])), (a2, .inl (cI, 60, .inl (f2)))]) ⟨hx, hb, hml, hown, hts⟩ (c_oldK3 l D cI cP cR h qr qp md r0 r1 r2 r3 po ro pr0 pa0 ps0 ph0 pt0 pm0 pr1 pa1 ps1 ph1 pt1 pm1 pr2 pa2 ps2 ph2 pt2 pm2 pr3 pa3 ps3 ph3 pt3 pm3 a0 a1 a2 n0 n1 n2 c0 c1 c2 f0 f1 f2 hr3 hw3) (cwV 0 hts gX2_oldPegs_X0_isOld rfl rfl rfl (by decide +kernel) ⟨Nat.le_of_ble_eq_true rfl, Nat.le_of_ble_eq_true rfl⟩) hK hP hD [2, 3, 4, 5, 6, 7, 8, 9, 10, 11] rfl (by decide) 3 rfl rfl rfl rfl hl.1 rfl (Nat.le_of_ble_eq_true rfl) dX2_oldPegs_19 ⟨Nat.zero_le _, Nat.zero_le _⟩ ?_
        refine pw_if_eq (tgt := 28) hx hb (by omega) dX2_oldPegs_22 (by decide) (fun c_8 => ?_) (fun c_8 => ?_)
        · have _h := c_8
          refine lv_iinc (v := nI 4) (lv' := [(2, .int (nI 4)), (1, .int (nI 2)), (0, .ref h)]) hx hb dX2_oldPegs_28 hl (k := 0) rfl (pw_inc _ 1) (by decide) rfl (fun ls hl => ?_)
          refine lv_goto (tgt := 4) hx hb dX2_oldPegs_31 (by decide) ?_
          refine lv_iload_n hx hb dX2_oldPegs_4 rfl (lv_at hl 0 rfl) ?_
          refine lv_aload_n hx hb dX2_oldPegs_5 rfl (lv_at hl 2 rfl) ?_
          refine va_get (D := D) (ci := 2) (v := .ref qp) (C := RX2) (T := TX2) (N := 7) hx hb hts hi_X2_oldPegs_2 hown hK.1 hP 0 rfl rfl 1 (by decide) (hts _ hf_X2_oldPegs_17) (fun _ h9 => h9) rfl dX2_oldPegs_6 ?_
          refine va_alen (v := nI 4) hx hb hK.1 hP 1 1 rfl rfl rfl dX2_oldPegs_9 ?_
          refine lv_icmp_ge (tgt := 34) hx hb dX2_oldPegs_10 (by decide) (fun c => ?_) (fun c => absurd c (by decide))
          refine lv_iload_n hx hb dX2_oldPegs_34 rfl (lv_at hl 1 rfl) ?_
          exact pw_piret hx hb hr (rfl) hlocks dX2_oldPegs_35 (congrArg (fun z => Value.int (nI z)) (by omega))
        · have _h := c_8
          refine lv_iinc (v := nI 3) (lv' := [(1, .int (nI 3)), (2, .int (nI 3)), (0, .ref h)]) hx hb dX2_oldPegs_25 hl (k := 1) rfl (pw_inc _ 1) (by decide) rfl (fun ls hl => ?_)
          refine lv_iinc (v := nI 4) (lv' := [(2, .int (nI 4)), (1, .int (nI 3)), (0, .ref h)]) hx hb dX2_oldPegs_28 hl (k := 1) rfl (pw_inc _ 1) (by decide) rfl (fun ls hl => ?_)
          refine lv_goto (tgt := 4) hx hb dX2_oldPegs_31 (by decide) ?_
          refine lv_iload_n hx hb dX2_oldPegs_4 rfl (lv_at hl 0 rfl) ?_
          refine lv_aload_n hx hb dX2_oldPegs_5 rfl (lv_at hl 2 rfl) ?_
          refine va_get (D := D) (ci := 2) (v := .ref qp) (C := RX2) (T := TX2) (N := 7) hx hb hts hi_X2_oldPegs_2 hown hK.1 hP 0 rfl rfl 1 (by decide) (hts _ hf_X2_oldPegs_17) (fun _ h9 => h9) rfl dX2_oldPegs_6 ?_
          refine va_alen (v := nI 4) hx hb hK.1 hP 1 1 rfl rfl rfl dX2_oldPegs_9 ?_
          refine lv_icmp_ge (tgt := 34) hx hb dX2_oldPegs_10 (by decide) (fun c => ?_) (fun c => absurd c (by decide))
          refine lv_iload_n hx hb dX2_oldPegs_34 rfl (lv_at hl 1 rfl) ?_
          exact pw_piret hx hb hr (rfl) hlocks dX2_oldPegs_35 (congrArg (fun z => Value.int (nI z)) (by omega))
  · have _h := c_1
    refine lv_iinc (v := nI 1) (lv' := [(1, .int (nI 1)), (2, .int (nI 0)), (0, .ref h)]) hx hb dX2_oldPegs_25 hl (k := 1) rfl (pw_inc _ 1) (by decide) rfl (fun ls hl => ?_)
    refine lv_iinc (v := nI 1) (lv' := [(2, .int (nI 1)), (1, .int (nI 1)), (0, .ref h)]) hx hb dX2_oldPegs_28 hl (k := 1) rfl (pw_inc _ 1) (by decide) rfl (fun ls hl => ?_)
    refine lv_goto (tgt := 4) hx hb dX2_oldPegs_31 (by decide) ?_
    refine lv_iload_n hx hb dX2_oldPegs_4 rfl (lv_at hl 0 rfl) ?_
    refine lv_aload_n hx hb dX2_oldPegs_5 rfl (lv_at hl 2 rfl) ?_
    refine va_get (D := D) (ci := 2) (v := .ref qp) (C := RX2) (T := TX2) (N := 7) hx hb hts hi_X2_oldPegs_2 hown hK.1 hP 0 rfl rfl 1 (by decide) (hts _ hf_X2_oldPegs_17) (fun _ h9 => h9) rfl dX2_oldPegs_6 ?_
    refine va_alen (v := nI 4) hx hb hK.1 hP 1 1 rfl rfl rfl dX2_oldPegs_9 ?_
    refine lv_icmp_ge (tgt := 34) hx hb dX2_oldPegs_10 (by decide) (fun c => absurd c (by decide)) (fun c => ?_)
    refine lv_aload_n hx hb dX2_oldPegs_13 rfl (lv_at hl 2 rfl) ?_
    refine va_get (D := D) (ci := 2) (v := .ref qp) (C := RX2) (T := TX2) (N := 7) hx hb hts hi_X2_oldPegs_2 hown hK.1 hP 0 rfl rfl 1 (by decide) (hts _ hf_X2_oldPegs_17) (fun _ h9 => h9) rfl dX2_oldPegs_14 ?_
    refine lv_iload_n hx hb dX2_oldPegs_17 rfl (lv_at hl 0 rfl) ?_
    refine pw_aldq hx hb hK.1 hP 1 1 rfl rfl (by decide) (by omega) dX2_oldPegs_18 ?_
    have ho1 : oldP pr1 ps1 c0 c1 c2 < 2 := by unfold oldP; split <;> (try split) <;> omega
    -- c_oldK1
    refine pw_cVp (As := []) (rest := []) (wc := [(po 0, .inr (0, [va_rf (pr0.map ro), .int (pa0), .int (ps0), .int (ph0), .int (pt0), .int (pm0)])), (po 1, .inr (0, [va_rf (pr1.map ro), .int (pa1), .int (ps1), .int (ph1), .int (pt1), .int (pm1)])), (po 2, .inr (0, [va_rf (pr2.map ro), .int (pa2), .int (ps2), .int (ph2), .int (pt2), .int (pm2)])), (po 3, .inr (0, [va_rf (pr3.map ro), .int (pa3), .int (ps3), .int (ph3), .int (pt3), .int (pm3)])), (ro 0, .inr (1, [.ref a0, .int (nI n0), .int (c0)])), (a0, .inl (cI, 60, .inl (f0))), (ro 1, .inr (1, [.ref a1, .int (nI n1), .int (c1)])), (a1, .inl (cI, 60, .inl (f1))), (ro 2, .inr (1, [.ref a2, .int (nI n2), .int (c2)])), (a2, .inl (cI, 60, .inl (f2)))]) ⟨hx, hb, hml, hown, hts⟩ (c_oldK1 l D cI cP cR h qr qp md r0 r1 r2 r3 po ro pr0 pa0 ps0 ph0 pt0 pm0 pr1 pa1 ps1 ph1 pt1 pm1 pr2 pa2 ps2 ph2 pt2 pm2 pr3 pa3 ps3 ph3 pt3 pm3 a0 a1 a2 n0 n1 n2 c0 c1 c2 f0 f1 f2 hr1 hw1) (cwV 0 hts gX2_oldPegs_X0_isOld rfl rfl rfl (by decide +kernel) ⟨Nat.le_of_ble_eq_true rfl, Nat.le_of_ble_eq_true rfl⟩) hK hP hD [2, 3, 4, 5, 6, 7, 8, 9, 10, 11] rfl (by decide) 1 rfl rfl rfl rfl hl.1 rfl (Nat.le_of_ble_eq_true rfl) dX2_oldPegs_19 ⟨Nat.zero_le _, Nat.zero_le _⟩ ?_
    refine pw_if_eq (tgt := 28) hx hb (by omega) dX2_oldPegs_22 (by decide) (fun c_9 => ?_) (fun c_9 => ?_)
    · have _h := c_9
      refine lv_iinc (v := nI 2) (lv' := [(2, .int (nI 2)), (1, .int (nI 1)), (0, .ref h)]) hx hb dX2_oldPegs_28 hl (k := 0) rfl (pw_inc _ 1) (by decide) rfl (fun ls hl => ?_)
      refine lv_goto (tgt := 4) hx hb dX2_oldPegs_31 (by decide) ?_
      refine lv_iload_n hx hb dX2_oldPegs_4 rfl (lv_at hl 0 rfl) ?_
      refine lv_aload_n hx hb dX2_oldPegs_5 rfl (lv_at hl 2 rfl) ?_
      refine va_get (D := D) (ci := 2) (v := .ref qp) (C := RX2) (T := TX2) (N := 7) hx hb hts hi_X2_oldPegs_2 hown hK.1 hP 0 rfl rfl 1 (by decide) (hts _ hf_X2_oldPegs_17) (fun _ h9 => h9) rfl dX2_oldPegs_6 ?_
      refine va_alen (v := nI 4) hx hb hK.1 hP 1 1 rfl rfl rfl dX2_oldPegs_9 ?_
      refine lv_icmp_ge (tgt := 34) hx hb dX2_oldPegs_10 (by decide) (fun c => absurd c (by decide)) (fun c => ?_)
      refine lv_aload_n hx hb dX2_oldPegs_13 rfl (lv_at hl 2 rfl) ?_
      refine va_get (D := D) (ci := 2) (v := .ref qp) (C := RX2) (T := TX2) (N := 7) hx hb hts hi_X2_oldPegs_2 hown hK.1 hP 0 rfl rfl 1 (by decide) (hts _ hf_X2_oldPegs_17) (fun _ h9 => h9) rfl dX2_oldPegs_14 ?_
      refine lv_iload_n hx hb dX2_oldPegs_17 rfl (lv_at hl 0 rfl) ?_
      refine pw_aldq hx hb hK.1 hP 1 1 rfl rfl (by decide) (by omega) dX2_oldPegs_18 ?_
      have ho2 : oldP pr2 ps2 c0 c1 c2 < 2 := by unfold oldP; split <;> (try split) <;> omega
      -- c_oldK2
      refine pw_cVp (As := []) (rest := []) (wc := [(po 0, .inr (0, [va_rf (pr0.map ro), .int (pa0), .int (ps0), .int (ph0), .int (pt0), .int (pm0)])), (po 1, .inr (0, [va_rf (pr1.map ro), .int (pa1), .int (ps1), .int (ph1), .int (pt1), .int (pm1)])), (po 2, .inr (0, [va_rf (pr2.map ro), .int (pa2), .int (ps2), .int (ph2), .int (pt2), .int (pm2)])), (po 3, .inr (0, [va_rf (pr3.map ro), .int (pa3), .int (ps3), .int (ph3), .int (pt3), .int (pm3)])), (ro 0, .inr (1, [.ref a0, .int (nI n0), .int (c0)])), (a0, .inl (cI, 60, .inl (f0))), (ro 1, .inr (1, [.ref a1, .int (nI n1), .int (c1)])), (a1, .inl (cI, 60, .inl (f1))), (ro 2, .inr (1, [.ref a2, .int (nI n2), .int (c2)])), (a2, .inl (cI, 60, .inl (f2)))]) ⟨hx, hb, hml, hown, hts⟩ (c_oldK2 l D cI cP cR h qr qp md r0 r1 r2 r3 po ro pr0 pa0 ps0 ph0 pt0 pm0 pr1 pa1 ps1 ph1 pt1 pm1 pr2 pa2 ps2 ph2 pt2 pm2 pr3 pa3 ps3 ph3 pt3 pm3 a0 a1 a2 n0 n1 n2 c0 c1 c2 f0 f1 f2 hr2 hw2) (cwV 0 hts gX2_oldPegs_X0_isOld rfl rfl rfl (by decide +kernel) ⟨Nat.le_of_ble_eq_true rfl, Nat.le_of_ble_eq_true rfl⟩) hK hP hD [2, 3, 4, 5, 6, 7, 8, 9, 10, 11] rfl (by decide) 2 rfl rfl rfl rfl hl.1 rfl (Nat.le_of_ble_eq_true rfl) dX2_oldPegs_19 ⟨Nat.zero_le _, Nat.zero_le _⟩ ?_
      refine pw_if_eq (tgt := 28) hx hb (by omega) dX2_oldPegs_22 (by decide) (fun c_10 => ?_) (fun c_10 => ?_)
      · have _h := c_10
        refine lv_iinc (v := nI 3) (lv' := [(2, .int (nI 3)), (1, .int (nI 1)), (0, .ref h)]) hx hb dX2_oldPegs_28 hl (k := 0) rfl (pw_inc _ 1) (by decide) rfl (fun ls hl => ?_)
        refine lv_goto (tgt := 4) hx hb dX2_oldPegs_31 (by decide) ?_
        refine lv_iload_n hx hb dX2_oldPegs_4 rfl (lv_at hl 0 rfl) ?_
        refine lv_aload_n hx hb dX2_oldPegs_5 rfl (lv_at hl 2 rfl) ?_
        refine va_get (D := D) (ci := 2) (v := .ref qp) (C := RX2) (T := TX2) (N := 7) hx hb hts hi_X2_oldPegs_2 hown hK.1 hP 0 rfl rfl 1 (by decide) (hts _ hf_X2_oldPegs_17) (fun _ h9 => h9) rfl dX2_oldPegs_6 ?_
        refine va_alen (v := nI 4) hx hb hK.1 hP 1 1 rfl rfl rfl dX2_oldPegs_9 ?_
        refine lv_icmp_ge (tgt := 34) hx hb dX2_oldPegs_10 (by decide) (fun c => absurd c (by decide)) (fun c => ?_)
        refine lv_aload_n hx hb dX2_oldPegs_13 rfl (lv_at hl 2 rfl) ?_
        refine va_get (D := D) (ci := 2) (v := .ref qp) (C := RX2) (T := TX2) (N := 7) hx hb hts hi_X2_oldPegs_2 hown hK.1 hP 0 rfl rfl 1 (by decide) (hts _ hf_X2_oldPegs_17) (fun _ h9 => h9) rfl dX2_oldPegs_14 ?_
        refine lv_iload_n hx hb dX2_oldPegs_17 rfl (lv_at hl 0 rfl) ?_
        refine pw_aldq hx hb hK.1 hP 1 1 rfl rfl (by decide) (by omega) dX2_oldPegs_18 ?_
        have ho3 : oldP pr3 ps3 c0 c1 c2 < 2 := by unfold oldP; split <;> (try split) <;> omega
        -- c_oldK3
        refine pw_cVp (As := []) (rest := []) (wc := [(po 0, .inr (0, [va_rf (pr0.map ro), .int (pa0), .int (ps0), .int (ph0), .int (pt0), .int (pm0)])), (po 1, .inr (0, [va_rf (pr1.map ro), .int (pa1), .int (ps1), .int (ph1), .int (pt1), .int (pm1)])), (po 2, .inr (0, [va_rf (pr2.map ro), .int (pa2), .int (ps2), .int (ph2), .int (pt2), .int (pm2)])), (po 3, .inr (0, [va_rf (pr3.map ro), .int (pa3), .int (ps3), .int (ph3), .int (pt3), .int (pm3)])), (ro 0, .inr (1, [.ref a0, .int (nI n0), .int (c0)])), (a0, .inl (cI, 60, .inl (f0))), (ro 1, .inr (1, [.ref a1, .int (nI n1), .int (c1)])), (a1, .inl (cI, 60, .inl (f1))), (ro 2, .inr (1, [.ref a2, .int (nI n2), .int (c2)])), (a2, .inl (cI, 60, .inl (f2)))]) ⟨hx, hb, hml, hown, hts⟩ (c_oldK3 l D cI cP cR h qr qp md r0 r1 r2 r3 po ro pr0 pa0 ps0 ph0 pt0 pm0 pr1 pa1 ps1 ph1 pt1 pm1 pr2 pa2 ps2 ph2 pt2 pm2 pr3 pa3 ps3 ph3 pt3 pm3 a0 a1 a2 n0 n1 n2 c0 c1 c2 f0 f1 f2 hr3 hw3) (cwV 0 hts gX2_oldPegs_X0_isOld rfl rfl rfl (by decide +kernel) ⟨Nat.le_of_ble_eq_true rfl, Nat.le_of_ble_eq_true rfl⟩) hK hP hD [2, 3, 4, 5, 6, 7, 8, 9, 10, 11] rfl (by decide) 3 rfl rfl rfl rfl hl.1 rfl (Nat.le_of_ble_eq_true rfl) dX2_oldPegs_19 ⟨Nat.zero_le _, Nat.zero_le _⟩ ?_
        refine pw_if_eq (tgt := 28) hx hb (by omega) dX2_oldPegs_22 (by decide) (fun c_11 => ?_) (fun c_11 => ?_)
        · have _h := c_11
          refine lv_iinc (v := nI 4) (lv' := [(2, .int (nI 4)), (1, .int (nI 1)), (0, .ref h)]) hx hb dX2_oldPegs_28 hl (k := 0) rfl (pw_inc _ 1) (by decide) rfl (fun ls hl => ?_)
          refine lv_goto (tgt := 4) hx hb dX2_oldPegs_31 (by decide) ?_
          refine lv_iload_n hx hb dX2_oldPegs_4 rfl (lv_at hl 0 rfl) ?_
          refine lv_aload_n hx hb dX2_oldPegs_5 rfl (lv_at hl 2 rfl) ?_
          refine va_get (D := D) (ci := 2) (v := .ref qp) (C := RX2) (T := TX2) (N := 7) hx hb hts hi_X2_oldPegs_2 hown hK.1 hP 0 rfl rfl 1 (by decide) (hts _ hf_X2_oldPegs_17) (fun _ h9 => h9) rfl dX2_oldPegs_6 ?_
          refine va_alen (v := nI 4) hx hb hK.1 hP 1 1 rfl rfl rfl dX2_oldPegs_9 ?_
          refine lv_icmp_ge (tgt := 34) hx hb dX2_oldPegs_10 (by decide) (fun c => ?_) (fun c => absurd c (by decide))
          refine lv_iload_n hx hb dX2_oldPegs_34 rfl (lv_at hl 1 rfl) ?_
          exact pw_piret hx hb hr (rfl) hlocks dX2_oldPegs_35 (congrArg (fun z => Value.int (nI z)) (by omega))
        · have _h := c_11
          refine lv_iinc (v := nI 2) (lv' := [(1, .int (nI 2)), (2, .int (nI 3)), (0, .ref h)]) hx hb dX2_oldPegs_25 hl (k := 1) rfl (pw_inc _ 1) (by decide) rfl (fun ls hl => ?_)
          refine lv_iinc (v := nI 4) (lv' := [(2, .int (nI 4)), (1, .int (nI 2)), (0, .ref h)]) hx hb dX2_oldPegs_28 hl (k := 1) rfl (pw_inc _ 1) (by decide) rfl (fun ls hl => ?_)
          refine lv_goto (tgt := 4) hx hb dX2_oldPegs_31 (by decide) ?_
          refine lv_iload_n hx hb dX2_oldPegs_4 rfl (lv_at hl 0 rfl) ?_
          refine lv_aload_n hx hb dX2_oldPegs_5 rfl (lv_at hl 2 rfl) ?_
          refine va_get (D := D) (ci := 2) (v := .ref qp) (C := RX2) (T := TX2) (N := 7) hx hb hts hi_X2_oldPegs_2 hown hK.1 hP 0 rfl rfl 1 (by decide) (hts _ hf_X2_oldPegs_17) (fun _ h9 => h9) rfl dX2_oldPegs_6 ?_
          refine va_alen (v := nI 4) hx hb hK.1 hP 1 1 rfl rfl rfl dX2_oldPegs_9 ?_
          refine lv_icmp_ge (tgt := 34) hx hb dX2_oldPegs_10 (by decide) (fun c => ?_) (fun c => absurd c (by decide))
          refine lv_iload_n hx hb dX2_oldPegs_34 rfl (lv_at hl 1 rfl) ?_
          exact pw_piret hx hb hr (rfl) hlocks dX2_oldPegs_35 (congrArg (fun z => Value.int (nI z)) (by omega))
      · have _h := c_10
        refine lv_iinc (v := nI 2) (lv' := [(1, .int (nI 2)), (2, .int (nI 2)), (0, .ref h)]) hx hb dX2_oldPegs_25 hl (k := 1) rfl (pw_inc _ 1) (by decide) rfl (fun ls hl => ?_)
        refine lv_iinc (v := nI 3) (lv' := [(2, .int (nI 3)), (1, .int (nI 2)), (0, .ref h)]) hx hb dX2_oldPegs_28 hl (k := 1) rfl (pw_inc _ 1) (by decide) rfl (fun ls hl => ?_)
        refine lv_goto (tgt := 4) hx hb dX2_oldPegs_31 (by decide) ?_
        refine lv_iload_n hx hb dX2_oldPegs_4 rfl (lv_at hl 0 rfl) ?_
        refine lv_aload_n hx hb dX2_oldPegs_5 rfl (lv_at hl 2 rfl) ?_
        refine va_get (D := D) (ci := 2) (v := .ref qp) (C := RX2) (T := TX2) (N := 7) hx hb hts hi_X2_oldPegs_2 hown hK.1 hP 0 rfl rfl 1 (by decide) (hts _ hf_X2_oldPegs_17) (fun _ h9 => h9) rfl dX2_oldPegs_6 ?_
        refine va_alen (v := nI 4) hx hb hK.1 hP 1 1 rfl rfl rfl dX2_oldPegs_9 ?_
        refine lv_icmp_ge (tgt := 34) hx hb dX2_oldPegs_10 (by decide) (fun c => absurd c (by decide)) (fun c => ?_)
        refine lv_aload_n hx hb dX2_oldPegs_13 rfl (lv_at hl 2 rfl) ?_
        refine va_get (D := D) (ci := 2) (v := .ref qp) (C := RX2) (T := TX2) (N := 7) hx hb hts hi_X2_oldPegs_2 hown hK.1 hP 0 rfl rfl 1 (by decide) (hts _ hf_X2_oldPegs_17) (fun _ h9 => h9) rfl dX2_oldPegs_14 ?_
        refine lv_iload_n hx hb dX2_oldPegs_17 rfl (lv_at hl 0 rfl) ?_
        refine pw_aldq hx hb hK.1 hP 1 1 rfl rfl (by decide) (by omega) dX2_oldPegs_18 ?_
        have ho3 : oldP pr3 ps3 c0 c1 c2 < 2 := by unfold oldP; split <;> (try split) <;> omega
        -- c_oldK3
        refine pw_cVp (As := []) (rest := []) (wc := [(po 0, .inr (0, [va_rf (pr0.map ro), .int (pa0), .int (ps0), .int (ph0), .int (pt0), .int (pm0)])), (po 1, .inr (0, [va_rf (pr1.map ro), .int (pa1), .int (ps1), .int (ph1), .int (pt1), .int (pm1)])), (po 2, .inr (0, [va_rf (pr2.map ro), .int (pa2), .int (ps2), .int (ph2), .int (pt2), .int (pm2)])), (po 3, .inr (0, [va_rf (pr3.map ro), .int (pa3), .int (ps3), .int (ph3), .int (pt3), .int (pm3)])), (ro 0, .inr (1, [.ref a0, .int (nI n0), .int (c0)])), (a0, .inl (cI, 60, .inl (f0))), (ro 1, .inr (1, [.ref a1, .int (nI n1), .int (c1)])), (a1, .inl (cI, 60, .inl (f1))), (ro 2, .inr (1, [.ref a2, .int (nI n2), .int (c2)])), (a2, .inl (cI, 60, .inl (f2)))]) ⟨hx, hb, hml, hown, hts⟩ (c_oldK3 l D cI cP cR h qr qp md r0 r1 r2 r3 po ro pr0 pa0 ps0 ph0 pt0 pm0 pr1 pa1 ps1 ph1 pt1 pm1 pr2 pa2 ps2 ph2 pt2 pm2 pr3 pa3 ps3 ph3 pt3 pm3 a0 a1 a2 n0 n1 n2 c0 c1 c2 f0 f1 f2 hr3 hw3) (cwV 0 hts gX2_oldPegs_X0_isOld rfl rfl rfl (by decide +kernel) ⟨Nat.le_of_ble_eq_true rfl, Nat.le_of_ble_eq_true rfl⟩) hK hP hD [2, 3, 4, 5, 6, 7, 8, 9, 10, 11] rfl (by decide) 3 rfl rfl rfl rfl hl.1 rfl (Nat.le_of_ble_eq_true rfl) dX2_oldPegs_19 ⟨Nat.zero_le _, Nat.zero_le _⟩ ?_
        refine pw_if_eq (tgt := 28) hx hb (by omega) dX2_oldPegs_22 (by decide) (fun c_12 => ?_) (fun c_12 => ?_)
        · have _h := c_12
          refine lv_iinc (v := nI 4) (lv' := [(2, .int (nI 4)), (1, .int (nI 2)), (0, .ref h)]) hx hb dX2_oldPegs_28 hl (k := 0) rfl (pw_inc _ 1) (by decide) rfl (fun ls hl => ?_)
          refine lv_goto (tgt := 4) hx hb dX2_oldPegs_31 (by decide) ?_
          refine lv_iload_n hx hb dX2_oldPegs_4 rfl (lv_at hl 0 rfl) ?_
          refine lv_aload_n hx hb dX2_oldPegs_5 rfl (lv_at hl 2 rfl) ?_
          refine va_get (D := D) (ci := 2) (v := .ref qp) (C := RX2) (T := TX2) (N := 7) hx hb hts hi_X2_oldPegs_2 hown hK.1 hP 0 rfl rfl 1 (by decide) (hts _ hf_X2_oldPegs_17) (fun _ h9 => h9) rfl dX2_oldPegs_6 ?_
          refine va_alen (v := nI 4) hx hb hK.1 hP 1 1 rfl rfl rfl dX2_oldPegs_9 ?_
          refine lv_icmp_ge (tgt := 34) hx hb dX2_oldPegs_10 (by decide) (fun c => ?_) (fun c => absurd c (by decide))
          refine lv_iload_n hx hb dX2_oldPegs_34 rfl (lv_at hl 1 rfl) ?_
          exact pw_piret hx hb hr (rfl) hlocks dX2_oldPegs_35 (congrArg (fun z => Value.int (nI z)) (by omega))
        · have _h := c_12
          refine lv_iinc (v := nI 3) (lv' := [(1, .int (nI 3)), (2, .int (nI 3)), (0, .ref h)]) hx hb dX2_oldPegs_25 hl (k := 1) rfl (pw_inc _ 1) (by decide) rfl (fun ls hl => ?_)
          refine lv_iinc (v := nI 4) (lv' := [(2, .int (nI 4)), (1, .int (nI 3)), (0, .ref h)]) hx hb dX2_oldPegs_28 hl (k := 1) rfl (pw_inc _ 1) (by decide) rfl (fun ls hl => ?_)
          refine lv_goto (tgt := 4) hx hb dX2_oldPegs_31 (by decide) ?_
          refine lv_iload_n hx hb dX2_oldPegs_4 rfl (lv_at hl 0 rfl) ?_
          refine lv_aload_n hx hb dX2_oldPegs_5 rfl (lv_at hl 2 rfl) ?_
          refine va_get (D := D) (ci := 2) (v := .ref qp) (C := RX2) (T := TX2) (N := 7) hx hb hts hi_X2_oldPegs_2 hown hK.1 hP 0 rfl rfl 1 (by decide) (hts _ hf_X2_oldPegs_17) (fun _ h9 => h9) rfl dX2_oldPegs_6 ?_
          refine va_alen (v := nI 4) hx hb hK.1 hP 1 1 rfl rfl rfl dX2_oldPegs_9 ?_
          refine lv_icmp_ge (tgt := 34) hx hb dX2_oldPegs_10 (by decide) (fun c => ?_) (fun c => absurd c (by decide))
          refine lv_iload_n hx hb dX2_oldPegs_34 rfl (lv_at hl 1 rfl) ?_
          exact pw_piret hx hb hr (rfl) hlocks dX2_oldPegs_35 (congrArg (fun z => Value.int (nI z)) (by omega))
    · have _h := c_9
      refine lv_iinc (v := nI 2) (lv' := [(1, .int (nI 2)), (2, .int (nI 1)), (0, .ref h)]) hx hb dX2_oldPegs_25 hl (k := 1) rfl (pw_inc _ 1) (by decide) rfl (fun ls hl => ?_)
      refine lv_iinc (v := nI 2) (lv' := [(2, .int (nI 2)), (1, .int (nI 2)), (0, .ref h)]) hx hb dX2_oldPegs_28 hl (k := 1) rfl (pw_inc _ 1) (by decide) rfl (fun ls hl => ?_)
      refine lv_goto (tgt := 4) hx hb dX2_oldPegs_31 (by decide) ?_
      refine lv_iload_n hx hb dX2_oldPegs_4 rfl (lv_at hl 0 rfl) ?_
      refine lv_aload_n hx hb dX2_oldPegs_5 rfl (lv_at hl 2 rfl) ?_
      refine va_get (D := D) (ci := 2) (v := .ref qp) (C := RX2) (T := TX2) (N := 7) hx hb hts hi_X2_oldPegs_2 hown hK.1 hP 0 rfl rfl 1 (by decide) (hts _ hf_X2_oldPegs_17) (fun _ h9 => h9) rfl dX2_oldPegs_6 ?_
      refine va_alen (v := nI 4) hx hb hK.1 hP 1 1 rfl rfl rfl dX2_oldPegs_9 ?_
      refine lv_icmp_ge (tgt := 34) hx hb dX2_oldPegs_10 (by decide) (fun c => absurd c (by decide)) (fun c => ?_)
      refine lv_aload_n hx hb dX2_oldPegs_13 rfl (lv_at hl 2 rfl) ?_
      refine va_get (D := D) (ci := 2) (v := .ref qp) (C := RX2) (T := TX2) (N := 7) hx hb hts hi_X2_oldPegs_2 hown hK.1 hP 0 rfl rfl 1 (by decide) (hts _ hf_X2_oldPegs_17) (fun _ h9 => h9) rfl dX2_oldPegs_14 ?_
      refine lv_iload_n hx hb dX2_oldPegs_17 rfl (lv_at hl 0 rfl) ?_
      refine pw_aldq hx hb hK.1 hP 1 1 rfl rfl (by decide) (by omega) dX2_oldPegs_18 ?_
      have ho2 : oldP pr2 ps2 c0 c1 c2 < 2 := by unfold oldP; split <;> (try split) <;> omega
      -- c_oldK2
      refine pw_cVp (As := []) (rest := []) (wc := [(po 0, .inr (0, [va_rf (pr0.map ro), .int (pa0), .int (ps0), .int (ph0), .int (pt0), .int (pm0)])), (po 1, .inr (0, [va_rf (pr1.map ro), .int (pa1), .int (ps1), .int (ph1), .int (pt1), .int (pm1)])), (po 2, .inr (0, [va_rf (pr2.map ro), .int (pa2), .int (ps2), .int (ph2), .int (pt2), .int (pm2)])), (po 3, .inr (0, [va_rf (pr3.map ro), .int (pa3), .int (ps3), .int (ph3), .int (pt3), .int (pm3)])), (ro 0, .inr (1, [.ref a0, .int (nI n0), .int (c0)])), (a0, .inl (cI, 60, .inl (f0))), (ro 1, .inr (1, [.ref a1, .int (nI n1), .int (c1)])), (a1, .inl (cI, 60, .inl (f1))), (ro 2, .inr (1, [.ref a2, .int (nI n2), .int (c2)])), (a2, .inl (cI, 60, .inl (f2)))]) ⟨hx, hb, hml, hown, hts⟩ (c_oldK2 l D cI cP cR h qr qp md r0 r1 r2 r3 po ro pr0 pa0 ps0 ph0 pt0 pm0 pr1 pa1 ps1 ph1 pt1 pm1 pr2 pa2 ps2 ph2 pt2 pm2 pr3 pa3 ps3 ph3 pt3 pm3 a0 a1 a2 n0 n1 n2 c0 c1 c2 f0 f1 f2 hr2 hw2) (cwV 0 hts gX2_oldPegs_X0_isOld rfl rfl rfl (by decide +kernel) ⟨Nat.le_of_ble_eq_true rfl, Nat.le_of_ble_eq_true rfl⟩) hK hP hD [2, 3, 4, 5, 6, 7, 8, 9, 10, 11] rfl (by decide) 2 rfl rfl rfl rfl hl.1 rfl (Nat.le_of_ble_eq_true rfl) dX2_oldPegs_19 ⟨Nat.zero_le _, Nat.zero_le _⟩ ?_
      refine pw_if_eq (tgt := 28) hx hb (by omega) dX2_oldPegs_22 (by decide) (fun c_13 => ?_) (fun c_13 => ?_)
      · have _h := c_13
        refine lv_iinc (v := nI 3) (lv' := [(2, .int (nI 3)), (1, .int (nI 2)), (0, .ref h)]) hx hb dX2_oldPegs_28 hl (k := 0) rfl (pw_inc _ 1) (by decide) rfl (fun ls hl => ?_)
        refine lv_goto (tgt := 4) hx hb dX2_oldPegs_31 (by decide) ?_
        refine lv_iload_n hx hb dX2_oldPegs_4 rfl (lv_at hl 0 rfl) ?_
        refine lv_aload_n hx hb dX2_oldPegs_5 rfl (lv_at hl 2 rfl) ?_
        refine va_get (D := D) (ci := 2) (v := .ref qp) (C := RX2) (T := TX2) (N := 7) hx hb hts hi_X2_oldPegs_2 hown hK.1 hP 0 rfl rfl 1 (by decide) (hts _ hf_X2_oldPegs_17) (fun _ h9 => h9) rfl dX2_oldPegs_6 ?_
        refine va_alen (v := nI 4) hx hb hK.1 hP 1 1 rfl rfl rfl dX2_oldPegs_9 ?_
        refine lv_icmp_ge (tgt := 34) hx hb dX2_oldPegs_10 (by decide) (fun c => absurd c (by decide)) (fun c => ?_)
        refine lv_aload_n hx hb dX2_oldPegs_13 rfl (lv_at hl 2 rfl) ?_
        refine va_get (D := D) (ci := 2) (v := .ref qp) (C := RX2) (T := TX2) (N := 7) hx hb hts hi_X2_oldPegs_2 hown hK.1 hP 0 rfl rfl 1 (by decide) (hts _ hf_X2_oldPegs_17) (fun _ h9 => h9) rfl dX2_oldPegs_14 ?_
        refine lv_iload_n hx hb dX2_oldPegs_17 rfl (lv_at hl 0 rfl) ?_
        refine pw_aldq hx hb hK.1 hP 1 1 rfl rfl (by decide) (by omega) dX2_oldPegs_18 ?_
        have ho3 : oldP pr3 ps3 c0 c1 c2 < 2 := by unfold oldP; split <;> (try split) <;> omega
        -- c_oldK3
        refine pw_cVp (As := []) (rest := []) (wc := [(po 0, .inr (0, [va_rf (pr0.map ro), .int (pa0), .int (ps0), .int (ph0), .int (pt0), .int (pm0)])), (po 1, .inr (0, [va_rf (pr1.map ro), .int (pa1), .int (ps1), .int (ph1), .int (pt1), .int (pm1)])), (po 2, .inr (0, [va_rf (pr2.map ro), .int (pa2), .int (ps2), .int (ph2), .int (pt2), .int (pm2)])), (po 3, .inr (0, [va_rf (pr3.map ro), .int (pa3), .int (ps3), .int (ph3), .int (pt3), .int (pm3)])), (ro 0, .inr (1, [.ref a0, .int (nI n0), .int (c0)])), (a0, .inl (cI, 60, .inl (f0))), (ro 1, .inr (1, [.ref a1, .int (nI n1), .int (c1)])), (a1, .inl (cI, 60, .inl (f1))), (ro 2, .inr (1, [.ref a2, .int (nI n2), .int (c2)])), (a2, .inl (cI, 60, .inl (f2)))]) ⟨hx, hb, hml, hown, hts⟩ (c_oldK3 l D cI cP cR h qr qp md r0 r1 r2 r3 po ro pr0 pa0 ps0 ph0 pt0 pm0 pr1 pa1 ps1 ph1 pt1 pm1 pr2 pa2 ps2 ph2 pt2 pm2 pr3 pa3 ps3 ph3 pt3 pm3 a0 a1 a2 n0 n1 n2 c0 c1 c2 f0 f1 f2 hr3 hw3) (cwV 0 hts gX2_oldPegs_X0_isOld rfl rfl rfl (by decide +kernel) ⟨Nat.le_of_ble_eq_true rfl, Nat.le_of_ble_eq_true rfl⟩) hK hP hD [2, 3, 4, 5, 6, 7, 8, 9, 10, 11] rfl (by decide) 3 rfl rfl rfl rfl hl.1 rfl (Nat.le_of_ble_eq_true rfl) dX2_oldPegs_19 ⟨Nat.zero_le _, Nat.zero_le _⟩ ?_
        refine pw_if_eq (tgt := 28) hx hb (by omega) dX2_oldPegs_22 (by decide) (fun c_14 => ?_) (fun c_14 => ?_)
        · have _h := c_14
          refine lv_iinc (v := nI 4) (lv' := [(2, .int (nI 4)), (1, .int (nI 2)), (0, .ref h)]) hx hb dX2_oldPegs_28 hl (k := 0) rfl (pw_inc _ 1) (by decide) rfl (fun ls hl => ?_)
          refine lv_goto (tgt := 4) hx hb dX2_oldPegs_31 (by decide) ?_
          refine lv_iload_n hx hb dX2_oldPegs_4 rfl (lv_at hl 0 rfl) ?_
          refine lv_aload_n hx hb dX2_oldPegs_5 rfl (lv_at hl 2 rfl) ?_
          refine va_get (D := D) (ci := 2) (v := .ref qp) (C := RX2) (T := TX2) (N := 7) hx hb hts hi_X2_oldPegs_2 hown hK.1 hP 0 rfl rfl 1 (by decide) (hts _ hf_X2_oldPegs_17) (fun _ h9 => h9) rfl dX2_oldPegs_6 ?_
          refine va_alen (v := nI 4) hx hb hK.1 hP 1 1 rfl rfl rfl dX2_oldPegs_9 ?_
          refine lv_icmp_ge (tgt := 34) hx hb dX2_oldPegs_10 (by decide) (fun c => ?_) (fun c => absurd c (by decide))
          refine lv_iload_n hx hb dX2_oldPegs_34 rfl (lv_at hl 1 rfl) ?_
          exact pw_piret hx hb hr (rfl) hlocks dX2_oldPegs_35 (congrArg (fun z => Value.int (nI z)) (by omega))
        · have _h := c_14
          refine lv_iinc (v := nI 3) (lv' := [(1, .int (nI 3)), (2, .int (nI 3)), (0, .ref h)]) hx hb dX2_oldPegs_25 hl (k := 1) rfl (pw_inc _ 1) (by decide) rfl (fun ls hl => ?_)
          refine lv_iinc (v := nI 4) (lv' := [(2, .int (nI 4)), (1, .int (nI 3)), (0, .ref h)]) hx hb dX2_oldPegs_28 hl (k := 1) rfl (pw_inc _ 1) (by decide) rfl (fun ls hl => ?_)
          refine lv_goto (tgt := 4) hx hb dX2_oldPegs_31 (by decide) ?_
          refine lv_iload_n hx hb dX2_oldPegs_4 rfl (lv_at hl 0 rfl) ?_
          refine lv_aload_n hx hb dX2_oldPegs_5 rfl (lv_at hl 2 rfl) ?_
          refine va_get (D := D) (ci := 2) (v := .ref qp) (C := RX2) (T := TX2) (N := 7) hx hb hts hi_X2_oldPegs_2 hown hK.1 hP 0 rfl rfl 1 (by decide) (hts _ hf_X2_oldPegs_17) (fun _ h9 => h9) rfl dX2_oldPegs_6 ?_
          refine va_alen (v := nI 4) hx hb hK.1 hP 1 1 rfl rfl rfl dX2_oldPegs_9 ?_
          refine lv_icmp_ge (tgt := 34) hx hb dX2_oldPegs_10 (by decide) (fun c => ?_) (fun c => absurd c (by decide))
          refine lv_iload_n hx hb dX2_oldPegs_34 rfl (lv_at hl 1 rfl) ?_
          exact pw_piret hx hb hr (rfl) hlocks dX2_oldPegs_35 (congrArg (fun z => Value.int (nI z)) (by omega))
      · have _h := c_13
        refine lv_iinc (v := nI 3) (lv' := [(1, .int (nI 3)), (2, .int (nI 2)), (0, .ref h)]) hx hb dX2_oldPegs_25 hl (k := 1) rfl (pw_inc _ 1) (by decide) rfl (fun ls hl => ?_)
        refine lv_iinc (v := nI 3) (lv' := [(2, .int (nI 3)), (1, .int (nI 3)), (0, .ref h)]) hx hb dX2_oldPegs_28 hl (k := 1) rfl (pw_inc _ 1) (by decide) rfl (fun ls hl => ?_)
        refine lv_goto (tgt := 4) hx hb dX2_oldPegs_31 (by decide) ?_
        refine lv_iload_n hx hb dX2_oldPegs_4 rfl (lv_at hl 0 rfl) ?_
        refine lv_aload_n hx hb dX2_oldPegs_5 rfl (lv_at hl 2 rfl) ?_
        refine va_get (D := D) (ci := 2) (v := .ref qp) (C := RX2) (T := TX2) (N := 7) hx hb hts hi_X2_oldPegs_2 hown hK.1 hP 0 rfl rfl 1 (by decide) (hts _ hf_X2_oldPegs_17) (fun _ h9 => h9) rfl dX2_oldPegs_6 ?_
        refine va_alen (v := nI 4) hx hb hK.1 hP 1 1 rfl rfl rfl dX2_oldPegs_9 ?_
        refine lv_icmp_ge (tgt := 34) hx hb dX2_oldPegs_10 (by decide) (fun c => absurd c (by decide)) (fun c => ?_)
        refine lv_aload_n hx hb dX2_oldPegs_13 rfl (lv_at hl 2 rfl) ?_
        refine va_get (D := D) (ci := 2) (v := .ref qp) (C := RX2) (T := TX2) (N := 7) hx hb hts hi_X2_oldPegs_2 hown hK.1 hP 0 rfl rfl 1 (by decide) (hts _ hf_X2_oldPegs_17) (fun _ h9 => h9) rfl dX2_oldPegs_14 ?_
        refine lv_iload_n hx hb dX2_oldPegs_17 rfl (lv_at hl 0 rfl) ?_
        refine pw_aldq hx hb hK.1 hP 1 1 rfl rfl (by decide) (by omega) dX2_oldPegs_18 ?_
        have ho3 : oldP pr3 ps3 c0 c1 c2 < 2 := by unfold oldP; split <;> (try split) <;> omega
        -- c_oldK3
        refine pw_cVp (As := []) (rest := []) (wc := [(po 0, .inr (0, [va_rf (pr0.map ro), .int (pa0), .int (ps0), .int (ph0), .int (pt0), .int (pm0)])), (po 1, .inr (0, [va_rf (pr1.map ro), .int (pa1), .int (ps1), .int (ph1), .int (pt1), .int (pm1)])), (po 2, .inr (0, [va_rf (pr2.map ro), .int (pa2), .int (ps2), .int (ph2), .int (pt2), .int (pm2)])), (po 3, .inr (0, [va_rf (pr3.map ro), .int (pa3), .int (ps3), .int (ph3), .int (pt3), .int (pm3)])), (ro 0, .inr (1, [.ref a0, .int (nI n0), .int (c0)])), (a0, .inl (cI, 60, .inl (f0))), (ro 1, .inr (1, [.ref a1, .int (nI n1), .int (c1)])), (a1, .inl (cI, 60, .inl (f1))), (ro 2, .inr (1, [.ref a2, .int (nI n2), .int (c2)])), (a2, .inl (cI, 60, .inl (f2)))]) ⟨hx, hb, hml, hown, hts⟩ (c_oldK3 l D cI cP cR h qr qp md r0 r1 r2 r3 po ro pr0 pa0 ps0 ph0 pt0 pm0 pr1 pa1 ps1 ph1 pt1 pm1 pr2 pa2 ps2 ph2 pt2 pm2 pr3 pa3 ps3 ph3 pt3 pm3 a0 a1 a2 n0 n1 n2 c0 c1 c2 f0 f1 f2 hr3 hw3) (cwV 0 hts gX2_oldPegs_X0_isOld rfl rfl rfl (by decide +kernel) ⟨Nat.le_of_ble_eq_true rfl, Nat.le_of_ble_eq_true rfl⟩) hK hP hD [2, 3, 4, 5, 6, 7, 8, 9, 10, 11] rfl (by decide) 3 rfl rfl rfl rfl hl.1 rfl (Nat.le_of_ble_eq_true rfl) dX2_oldPegs_19 ⟨Nat.zero_le _, Nat.zero_le _⟩ ?_
        refine pw_if_eq (tgt := 28) hx hb (by omega) dX2_oldPegs_22 (by decide) (fun c_15 => ?_) (fun c_15 => ?_)
        · have _h := c_15
          refine lv_iinc (v := nI 4) (lv' := [(2, .int (nI 4)), (1, .int (nI 3)), (0, .ref h)]) hx hb dX2_oldPegs_28 hl (k := 0) rfl (pw_inc _ 1) (by decide) rfl (fun ls hl => ?_)
          refine lv_goto (tgt := 4) hx hb dX2_oldPegs_31 (by decide) ?_
          refine lv_iload_n hx hb dX2_oldPegs_4 rfl (lv_at hl 0 rfl) ?_
          refine lv_aload_n hx hb dX2_oldPegs_5 rfl (lv_at hl 2 rfl) ?_
          refine va_get (D := D) (ci := 2) (v := .ref qp) (C := RX2) (T := TX2) (N := 7) hx hb hts hi_X2_oldPegs_2 hown hK.1 hP 0 rfl rfl 1 (by decide) (hts _ hf_X2_oldPegs_17) (fun _ h9 => h9) rfl dX2_oldPegs_6 ?_
          refine va_alen (v := nI 4) hx hb hK.1 hP 1 1 rfl rfl rfl dX2_oldPegs_9 ?_
          refine lv_icmp_ge (tgt := 34) hx hb dX2_oldPegs_10 (by decide) (fun c => ?_) (fun c => absurd c (by decide))
          refine lv_iload_n hx hb dX2_oldPegs_34 rfl (lv_at hl 1 rfl) ?_
          exact pw_piret hx hb hr (rfl) hlocks dX2_oldPegs_35 (congrArg (fun z => Value.int (nI z)) (by omega))
        · have _h := c_15
          refine lv_iinc (v := nI 4) (lv' := [(1, .int (nI 4)), (2, .int (nI 3)), (0, .ref h)]) hx hb dX2_oldPegs_25 hl (k := 1) rfl (pw_inc _ 1) (by decide) rfl (fun ls hl => ?_)
          refine lv_iinc (v := nI 4) (lv' := [(2, .int (nI 4)), (1, .int (nI 4)), (0, .ref h)]) hx hb dX2_oldPegs_28 hl (k := 1) rfl (pw_inc _ 1) (by decide) rfl (fun ls hl => ?_)
          refine lv_goto (tgt := 4) hx hb dX2_oldPegs_31 (by decide) ?_
          refine lv_iload_n hx hb dX2_oldPegs_4 rfl (lv_at hl 0 rfl) ?_
          refine lv_aload_n hx hb dX2_oldPegs_5 rfl (lv_at hl 2 rfl) ?_
          refine va_get (D := D) (ci := 2) (v := .ref qp) (C := RX2) (T := TX2) (N := 7) hx hb hts hi_X2_oldPegs_2 hown hK.1 hP 0 rfl rfl 1 (by decide) (hts _ hf_X2_oldPegs_17) (fun _ h9 => h9) rfl dX2_oldPegs_6 ?_
          refine va_alen (v := nI 4) hx hb hK.1 hP 1 1 rfl rfl rfl dX2_oldPegs_9 ?_
          refine lv_icmp_ge (tgt := 34) hx hb dX2_oldPegs_10 (by decide) (fun c => ?_) (fun c => absurd c (by decide))
          refine lv_iload_n hx hb dX2_oldPegs_34 rfl (lv_at hl 1 rfl) ?_
          exact pw_piret hx hb hr (rfl) hlocks dX2_oldPegs_35 (congrArg (fun z => Value.int (nI z)) (by omega))
theorem hi_X2_count_2 : ∀ w ∈ u_ws RX2 TX2 7, w ∈ wsX2_count := by decide +kernel
theorem hf_X2_count_140 : Cond.fieldLink RX2 140 "Pegrow" "made" "I" ∈ wsX2_count := by decide +kernel
set_option maxHeartbeats 4000000 in
set_option maxRecDepth 100000 in
theorem k_count_0 (l : Launch) (D : va_G) (cI cP cR : ClassId) (h qr qp md : Nat) (r0 r1 r2 r3 : Int32) : pw_Mp l yX2_count wsX2_count ({ frames := 3, cells := 0, slots := 0, locals := 63 } : Room) D cI cP cR [.ref h, .int (nI 0)] ([(h, .inr (2, [.ref qr, .ref qp, .int (nI md), .int (r0), .int (r1), .int (r2), .int (r3)]))]) (.int (nI md)) := by
  refine pw_ofp (cc := cX2_count) (maxL := 2) (ret := (some .int)) (own := RX2) (by decide +kernel) rfl rfl (Nat.le_of_ble_eq_true rfl) ?_
  intro p_ e_ s m bel meth cd hE hK hP hD ls hl
  obtain ⟨hx, hb, hr, hml, hown, hts, hlocks⟩ := hE
  have hNW := hK.2
  have hl : lv_has ls 2 [(0, .ref h), (1, .int (nI 0))] := hl
  refine lv_iload_n hx hb dX2_count_0 rfl (lv_at hl 1 rfl) ?_
  refine lv_tableIn (off := 43) (tgt := 44) hx hb dX2_count_1 (by decide) (by decide) (by decide) (by decide) ?_
  refine lv_aload_n hx hb dX2_count_44 rfl (lv_at hl 0 rfl) ?_
  refine va_get (D := D) (ci := 2) (v := .int (nI md)) (C := RX2) (T := TX2) (N := 7) hx hb hts hi_X2_count_2 hown hK.1 hP 0 rfl rfl 2 (by decide) (hts _ hf_X2_count_140) (fun _ h9 => h9) rfl dX2_count_45 ?_
  exact pw_piret hx hb hr (rfl) hlocks dX2_count_48 (rfl)
theorem hf_X2_count_143 : Cond.fieldLink RX2 143 "Pegrow" "emptyRefusals" "I" ∈ wsX2_count := by decide +kernel
set_option maxHeartbeats 4000000 in
set_option maxRecDepth 100000 in
theorem k_count_1 (l : Launch) (D : va_G) (cI cP cR : ClassId) (h qr qp md : Nat) (r0 r1 r2 r3 : Int32) : pw_Mp l yX2_count wsX2_count ({ frames := 3, cells := 0, slots := 0, locals := 63 } : Room) D cI cP cR [.ref h, .int (nI 1)] ([(h, .inr (2, [.ref qr, .ref qp, .int (nI md), .int (r0), .int (r1), .int (r2), .int (r3)]))]) (.int (r0)) := by
  refine pw_ofp (cc := cX2_count) (maxL := 2) (ret := (some .int)) (own := RX2) (by decide +kernel) rfl rfl (Nat.le_of_ble_eq_true rfl) ?_
  intro p_ e_ s m bel meth cd hE hK hP hD ls hl
  obtain ⟨hx, hb, hr, hml, hown, hts, hlocks⟩ := hE
  have hNW := hK.2
  have hl : lv_has ls 2 [(0, .ref h), (1, .int (nI 1))] := hl
  refine lv_iload_n hx hb dX2_count_0 rfl (lv_at hl 1 rfl) ?_
  refine lv_tableIn (off := 48) (tgt := 49) hx hb dX2_count_1 (by decide) (by decide) (by decide) (by decide) ?_
  refine lv_aload_n hx hb dX2_count_49 rfl (lv_at hl 0 rfl) ?_
  refine va_get (D := D) (ci := 2) (v := .int (r0)) (C := RX2) (T := TX2) (N := 7) hx hb hts hi_X2_count_2 hown hK.1 hP 0 rfl rfl 3 (by decide) (hts _ hf_X2_count_143) (fun _ h9 => h9) rfl dX2_count_50 ?_
  exact pw_piret hx hb hr (rfl) hlocks dX2_count_53 (rfl)
theorem hf_X2_count_146 : Cond.fieldLink RX2 146 "Pegrow" "placeRefusals" "I" ∈ wsX2_count := by decide +kernel
set_option maxHeartbeats 4000000 in
set_option maxRecDepth 100000 in
theorem k_count_2 (l : Launch) (D : va_G) (cI cP cR : ClassId) (h qr qp md : Nat) (r0 r1 r2 r3 : Int32) : pw_Mp l yX2_count wsX2_count ({ frames := 3, cells := 0, slots := 0, locals := 63 } : Room) D cI cP cR [.ref h, .int (nI 2)] ([(h, .inr (2, [.ref qr, .ref qp, .int (nI md), .int (r0), .int (r1), .int (r2), .int (r3)]))]) (.int (r1)) := by
  refine pw_ofp (cc := cX2_count) (maxL := 2) (ret := (some .int)) (own := RX2) (by decide +kernel) rfl rfl (Nat.le_of_ble_eq_true rfl) ?_
  intro p_ e_ s m bel meth cd hE hK hP hD ls hl
  obtain ⟨hx, hb, hr, hml, hown, hts, hlocks⟩ := hE
  have hNW := hK.2
  have hl : lv_has ls 2 [(0, .ref h), (1, .int (nI 2))] := hl
  refine lv_iload_n hx hb dX2_count_0 rfl (lv_at hl 1 rfl) ?_
  refine lv_tableIn (off := 53) (tgt := 54) hx hb dX2_count_1 (by decide) (by decide) (by decide) (by decide) ?_
  refine lv_aload_n hx hb dX2_count_54 rfl (lv_at hl 0 rfl) ?_
  refine va_get (D := D) (ci := 2) (v := .int (r1)) (C := RX2) (T := TX2) (N := 7) hx hb hts hi_X2_count_2 hown hK.1 hP 0 rfl rfl 4 (by decide) (hts _ hf_X2_count_146) (fun _ h9 => h9) rfl dX2_count_55 ?_
  exact pw_piret hx hb hr (rfl) hlocks dX2_count_58 (rfl)
theorem hf_X2_count_149 : Cond.fieldLink RX2 149 "Pegrow" "stateRefusals" "I" ∈ wsX2_count := by decide +kernel
set_option maxHeartbeats 4000000 in
set_option maxRecDepth 100000 in
theorem k_count_3 (l : Launch) (D : va_G) (cI cP cR : ClassId) (h qr qp md : Nat) (r0 r1 r2 r3 : Int32) : pw_Mp l yX2_count wsX2_count ({ frames := 3, cells := 0, slots := 0, locals := 63 } : Room) D cI cP cR [.ref h, .int (nI 3)] ([(h, .inr (2, [.ref qr, .ref qp, .int (nI md), .int (r0), .int (r1), .int (r2), .int (r3)]))]) (.int (r2)) := by
  refine pw_ofp (cc := cX2_count) (maxL := 2) (ret := (some .int)) (own := RX2) (by decide +kernel) rfl rfl (Nat.le_of_ble_eq_true rfl) ?_
  intro p_ e_ s m bel meth cd hE hK hP hD ls hl
  obtain ⟨hx, hb, hr, hml, hown, hts, hlocks⟩ := hE
  have hNW := hK.2
  have hl : lv_has ls 2 [(0, .ref h), (1, .int (nI 3))] := hl
  refine lv_iload_n hx hb dX2_count_0 rfl (lv_at hl 1 rfl) ?_
  refine lv_tableIn (off := 58) (tgt := 59) hx hb dX2_count_1 (by decide) (by decide) (by decide) (by decide) ?_
  refine lv_aload_n hx hb dX2_count_59 rfl (lv_at hl 0 rfl) ?_
  refine va_get (D := D) (ci := 2) (v := .int (r2)) (C := RX2) (T := TX2) (N := 7) hx hb hts hi_X2_count_2 hown hK.1 hP 0 rfl rfl 5 (by decide) (hts _ hf_X2_count_149) (fun _ h9 => h9) rfl dX2_count_60 ?_
  exact pw_piret hx hb hr (rfl) hlocks dX2_count_63 (rfl)
theorem hf_X2_count_152 : Cond.fieldLink RX2 152 "Pegrow" "oldRefusals" "I" ∈ wsX2_count := by decide +kernel
set_option maxHeartbeats 4000000 in
set_option maxRecDepth 100000 in
theorem k_count_4 (l : Launch) (D : va_G) (cI cP cR : ClassId) (h qr qp md : Nat) (r0 r1 r2 r3 : Int32) : pw_Mp l yX2_count wsX2_count ({ frames := 3, cells := 0, slots := 0, locals := 63 } : Room) D cI cP cR [.ref h, .int (nI 4)] ([(h, .inr (2, [.ref qr, .ref qp, .int (nI md), .int (r0), .int (r1), .int (r2), .int (r3)]))]) (.int (r3)) := by
  refine pw_ofp (cc := cX2_count) (maxL := 2) (ret := (some .int)) (own := RX2) (by decide +kernel) rfl rfl (Nat.le_of_ble_eq_true rfl) ?_
  intro p_ e_ s m bel meth cd hE hK hP hD ls hl
  obtain ⟨hx, hb, hr, hml, hown, hts, hlocks⟩ := hE
  have hNW := hK.2
  have hl : lv_has ls 2 [(0, .ref h), (1, .int (nI 4))] := hl
  refine lv_iload_n hx hb dX2_count_0 rfl (lv_at hl 1 rfl) ?_
  refine lv_tableIn (off := 63) (tgt := 64) hx hb dX2_count_1 (by decide) (by decide) (by decide) (by decide) ?_
  refine lv_aload_n hx hb dX2_count_64 rfl (lv_at hl 0 rfl) ?_
  refine va_get (D := D) (ci := 2) (v := .int (r3)) (C := RX2) (T := TX2) (N := 7) hx hb hts hi_X2_count_2 hown hK.1 hP 0 rfl rfl 6 (by decide) (hts _ hf_X2_count_152) (fun _ h9 => h9) rfl dX2_count_65 ?_
  exact pw_piret hx hb hr (rfl) hlocks dX2_count_68 (rfl)
set_option maxHeartbeats 4000000 in
set_option maxRecDepth 100000 in
theorem k_count_5 (l : Launch) (D : va_G) (cI cP cR : ClassId) (h qr qp md : Nat) (r0 r1 r2 r3 : Int32) (po : Nat → Nat) (ro : Nat → Nat) (pr0 : Option Nat) (pa0 ps0 ph0 pt0 pm0 : Int32) (pr1 : Option Nat) (pa1 ps1 ph1 pt1 pm1 : Int32) (pr2 : Option Nat) (pa2 ps2 ph2 pt2 pm2 : Int32) (pr3 : Option Nat) (pa3 ps3 ph3 pt3 pm3 : Int32) (a0 a1 a2 : Nat) (n0 n1 n2 : Nat) (c0 c1 c2 : Int32) (f0 f1 f2 : Nat → Int32) : pw_Mp l yX2_count wsX2_count ({ frames := 3, cells := 0, slots := 0, locals := 63 } : Room) D cI cP cR [.ref h, .int (nI 5)] ([(h, .inr (2, [.ref qr, .ref qp, .int (nI md), .int (r0), .int (r1), .int (r2), .int (r3)])), (qp, .inl (cP, 4, .inr (.inr (.inr (.inr (fun i => some (po i))))))), (po 0, .inr (0, [va_rf (pr0.map ro), .int (pa0), .int (ps0), .int (ph0), .int (pt0), .int (pm0)])), (po 1, .inr (0, [va_rf (pr1.map ro), .int (pa1), .int (ps1), .int (ph1), .int (pt1), .int (pm1)])), (po 2, .inr (0, [va_rf (pr2.map ro), .int (pa2), .int (ps2), .int (ph2), .int (pt2), .int (pm2)])), (po 3, .inr (0, [va_rf (pr3.map ro), .int (pa3), .int (ps3), .int (ph3), .int (pt3), .int (pm3)])), (ro 0, .inr (1, [.ref a0, .int (nI n0), .int (c0)])), (a0, .inl (cI, 60, .inl (f0))), (ro 1, .inr (1, [.ref a1, .int (nI n1), .int (c1)])), (a1, .inl (cI, 60, .inl (f1))), (ro 2, .inr (1, [.ref a2, .int (nI n2), .int (c2)])), (a2, .inl (cI, 60, .inl (f2)))]) (.int (nI ((if pr0.map ro = none then 0 else 1) + (if pr1.map ro = none then 0 else 1) + (if pr2.map ro = none then 0 else 1) + (if pr3.map ro = none then 0 else 1)))) := by
  refine pw_ofp (cc := cX2_count) (maxL := 2) (ret := (some .int)) (own := RX2) (by decide +kernel) rfl rfl (Nat.le_of_ble_eq_true rfl) ?_
  intro p_ e_ s m bel meth cd hE hK hP hD ls hl
  obtain ⟨hx, hb, hr, hml, hown, hts, hlocks⟩ := hE
  have hNW := hK.2
  have hl : lv_has ls 2 [(0, .ref h), (1, .int (nI 5))] := hl
  refine lv_iload_n hx hb dX2_count_0 rfl (lv_at hl 1 rfl) ?_
  refine lv_tableIn (off := 68) (tgt := 69) hx hb dX2_count_1 (by decide) (by decide) (by decide) (by decide) ?_
  refine lv_aload_n hx hb dX2_count_69 rfl (lv_at hl 0 rfl) ?_
  -- c_standingPegs
  refine pw_cVp (As := []) (rest := []) (wc := [(h, .inr (2, [.ref qr, .ref qp, .int (nI md), .int (r0), .int (r1), .int (r2), .int (r3)])), (qp, .inl (cP, 4, .inr (.inr (.inr (.inr (fun i => some (po i))))))), (po 0, .inr (0, [va_rf (pr0.map ro), .int (pa0), .int (ps0), .int (ph0), .int (pt0), .int (pm0)])), (po 1, .inr (0, [va_rf (pr1.map ro), .int (pa1), .int (ps1), .int (ph1), .int (pt1), .int (pm1)])), (po 2, .inr (0, [va_rf (pr2.map ro), .int (pa2), .int (ps2), .int (ph2), .int (pt2), .int (pm2)])), (po 3, .inr (0, [va_rf (pr3.map ro), .int (pa3), .int (ps3), .int (ph3), .int (pt3), .int (pm3)]))]) ⟨hx, hb, hml, hown, hts⟩ (c_standingPegs l D cI cP cR h qr qp md r0 r1 r2 r3 po (pr0.map ro) pa0 ps0 ph0 pt0 pm0 (pr1.map ro) pa1 ps1 ph1 pt1 pm1 (pr2.map ro) pa2 ps2 ph2 pt2 pm2 (pr3.map ro) pa3 ps3 ph3 pt3 pm3) (cwV 0 hts gX2_count_X2_standingPegs rfl rfl rfl (by decide +kernel) ⟨Nat.le_of_ble_eq_true rfl, Nat.le_of_ble_eq_true rfl⟩) hK hP hD [0, 1, 2, 3, 4, 5] rfl (by decide) 0 rfl rfl rfl rfl hl.1 rfl (Nat.le_of_ble_eq_true rfl) dX2_count_70 ⟨Nat.zero_le _, Nat.zero_le _⟩ ?_
  exact pw_piret hx hb hr (rfl) hlocks dX2_count_73 (rfl)
set_option maxHeartbeats 4000000 in
set_option maxRecDepth 100000 in
theorem k_count_6 (l : Launch) (D : va_G) (cI cP cR : ClassId) (h qr qp md : Nat) (r0 r1 r2 r3 : Int32) (po : Nat → Nat) (ro : Nat → Nat) (pr0 : Option Nat) (pa0 ps0 ph0 pt0 pm0 : Int32) (pr1 : Option Nat) (pa1 ps1 ph1 pt1 pm1 : Int32) (pr2 : Option Nat) (pa2 ps2 ph2 pt2 pm2 : Int32) (pr3 : Option Nat) (pa3 ps3 ph3 pt3 pm3 : Int32) (a0 a1 a2 : Nat) (n0 n1 n2 : Nat) (c0 c1 c2 : Int32) (f0 f1 f2 : Nat → Int32) (hr0 : ∀ x, pr0 = some x → x < 3) (hr1 : ∀ x, pr1 = some x → x < 3) (hr2 : ∀ x, pr2 = some x → x < 3) (hr3 : ∀ x, pr3 = some x → x < 3) (hw0 : inP pr0 pa0 ps0 c0 c1 c2 n0 n1 n2) (hw1 : inP pr1 pa1 ps1 c0 c1 c2 n0 n1 n2) (hw2 : inP pr2 pa2 ps2 c0 c1 c2 n0 n1 n2) (hw3 : inP pr3 pa3 ps3 c0 c1 c2 n0 n1 n2) : pw_Mp l yX2_count wsX2_count ({ frames := 3, cells := 0, slots := 0, locals := 63 } : Room) D cI cP cR [.ref h, .int (nI 6)] ([(h, .inr (2, [.ref qr, .ref qp, .int (nI md), .int (r0), .int (r1), .int (r2), .int (r3)])), (qp, .inl (cP, 4, .inr (.inr (.inr (.inr (fun i => some (po i))))))), (po 0, .inr (0, [va_rf (pr0.map ro), .int (pa0), .int (ps0), .int (ph0), .int (pt0), .int (pm0)])), (po 1, .inr (0, [va_rf (pr1.map ro), .int (pa1), .int (ps1), .int (ph1), .int (pt1), .int (pm1)])), (po 2, .inr (0, [va_rf (pr2.map ro), .int (pa2), .int (ps2), .int (ph2), .int (pt2), .int (pm2)])), (po 3, .inr (0, [va_rf (pr3.map ro), .int (pa3), .int (ps3), .int (ph3), .int (pt3), .int (pm3)])), (ro 0, .inr (1, [.ref a0, .int (nI n0), .int (c0)])), (a0, .inl (cI, 60, .inl (f0))), (ro 1, .inr (1, [.ref a1, .int (nI n1), .int (c1)])), (a1, .inl (cI, 60, .inl (f1))), (ro 2, .inr (1, [.ref a2, .int (nI n2), .int (c2)])), (a2, .inl (cI, 60, .inl (f2)))]) (.int (nI (oldP pr0 ps0 c0 c1 c2 + oldP pr1 ps1 c0 c1 c2 + oldP pr2 ps2 c0 c1 c2 + oldP pr3 ps3 c0 c1 c2))) := by
  refine pw_ofp (cc := cX2_count) (maxL := 2) (ret := (some .int)) (own := RX2) (by decide +kernel) rfl rfl (Nat.le_of_ble_eq_true rfl) ?_
  intro p_ e_ s m bel meth cd hE hK hP hD ls hl
  obtain ⟨hx, hb, hr, hml, hown, hts, hlocks⟩ := hE
  have hNW := hK.2
  have hl : lv_has ls 2 [(0, .ref h), (1, .int (nI 6))] := hl
  refine lv_iload_n hx hb dX2_count_0 rfl (lv_at hl 1 rfl) ?_
  refine lv_tableIn (off := 73) (tgt := 74) hx hb dX2_count_1 (by decide) (by decide) (by decide) (by decide) ?_
  refine lv_aload_n hx hb dX2_count_74 rfl (lv_at hl 0 rfl) ?_
  -- c_oldPegs
  refine pw_cVp (As := []) (rest := []) (wc := [(h, .inr (2, [.ref qr, .ref qp, .int (nI md), .int (r0), .int (r1), .int (r2), .int (r3)])), (qp, .inl (cP, 4, .inr (.inr (.inr (.inr (fun i => some (po i))))))), (po 0, .inr (0, [va_rf (pr0.map ro), .int (pa0), .int (ps0), .int (ph0), .int (pt0), .int (pm0)])), (po 1, .inr (0, [va_rf (pr1.map ro), .int (pa1), .int (ps1), .int (ph1), .int (pt1), .int (pm1)])), (po 2, .inr (0, [va_rf (pr2.map ro), .int (pa2), .int (ps2), .int (ph2), .int (pt2), .int (pm2)])), (po 3, .inr (0, [va_rf (pr3.map ro), .int (pa3), .int (ps3), .int (ph3), .int (pt3), .int (pm3)])), (ro 0, .inr (1, [.ref a0, .int (nI n0), .int (c0)])), (a0, .inl (cI, 60, .inl (f0))), (ro 1, .inr (1, [.ref a1, .int (nI n1), .int (c1)])), (a1, .inl (cI, 60, .inl (f1))), (ro 2, .inr (1, [.ref a2, .int (nI n2), .int (c2)])), (a2, .inl (cI, 60, .inl (f2)))]) ⟨hx, hb, hml, hown, hts⟩ (c_oldPegs l D cI cP cR h qr qp md r0 r1 r2 r3 po ro pr0 pa0 ps0 ph0 pt0 pm0 pr1 pa1 ps1 ph1 pt1 pm1 pr2 pa2 ps2 ph2 pt2 pm2 pr3 pa3 ps3 ph3 pt3 pm3 a0 a1 a2 n0 n1 n2 c0 c1 c2 f0 f1 f2 hr0 hr1 hr2 hr3 hw0 hw1 hw2 hw3) (cwV 0 hts gX2_count_X2_oldPegs rfl rfl rfl (by decide +kernel) ⟨Nat.le_of_ble_eq_true rfl, Nat.le_of_ble_eq_true rfl⟩) hK hP hD [0, 1, 2, 3, 4, 5, 6, 7, 8, 9, 10, 11] rfl (by decide) 0 rfl rfl rfl rfl hl.1 rfl (Nat.le_of_ble_eq_true rfl) dX2_count_75 ⟨Nat.zero_le _, Nat.zero_le _⟩ ?_
  exact pw_piret hx hb hr (rfl) hlocks dX2_count_78 (rfl)
set_option maxHeartbeats 4000000 in
set_option maxRecDepth 100000 in
theorem k_count_x (l : Launch) (D : va_G) (cI cP cR : ClassId) (h qr qp md : Nat) (r0 r1 r2 r3 : Int32) (wh : Int32) (hbad : ¬ (0 ≤ wh ∧ wh ≤ nI 6)) : pw_Mp l yX2_count wsX2_count ({ frames := 3, cells := 0, slots := 0, locals := 63 } : Room) D cI cP cR [.ref h, .int (wh)] ([(h, .inr (2, [.ref qr, .ref qp, .int (nI md), .int (r0), .int (r1), .int (r2), .int (r3)]))]) (.int (-1)) := by
  refine pw_ofp (cc := cX2_count) (maxL := 2) (ret := (some .int)) (own := RX2) (by decide +kernel) rfl rfl (Nat.le_of_ble_eq_true rfl) ?_
  intro p_ e_ s m bel meth cd hE hK hP hD ls hl
  obtain ⟨hx, hb, hr, hml, hown, hts, hlocks⟩ := hE
  have hNW := hK.2
  have hl : lv_has ls 2 [(0, .ref h), (1, .int (wh))] := hl
  have hout : wh.toInt < 0 ∨ 6 < wh.toInt := by
    rw [Int32.le_iff_toInt_le, Int32.le_iff_toInt_le, nI_toInt (by decide), Int32.toInt_zero] at hbad
    omega
  refine lv_iload_n hx hb dX2_count_0 rfl (lv_at hl 1 rfl) ?_
  refine lv_tableOut (tgt := 79) hx hb dX2_count_1 hout (by decide) ?_
  refine lv_iconst (v := -1) hx hb dX2_count_79 (by decide) ?_
  exact pw_piret hx hb hr (rfl) hlocks dX2_count_80 (rfl)
