theorem c_hasThingAt_t (l : Launch) (D : va_G) (cI cP cR : ClassId) (o a n : Nat) (ch : Int32) (f : Nat → Int32) (j : Nat) (hn : n ≤ 60) (hj : j < n) : pw_Mp l yX1_hasThingAt wsX1_hasThingAt ({ frames := 0, cells := 0, slots := 0, locals := 0 } : Room) D cI cP cR [.ref o, .int (nI j)] ([(o, .inr (1, [.ref a, .int (nI n), .int (ch)])), (a, .inl (cI, 60, .inl (f)))]) (.int (nI 1)) := by
  have h := c_hasThingAt l D cI cP cR o a n ch f (nI j)
  rw [if_pos ⟨pw_ge0 (by omega), (pw_ltN (by omega) (by omega)).mpr (by omega)⟩] at h
  exact h
theorem c_hasThingAt_f (l : Launch) (D : va_G) (cI cP cR : ClassId) (o a n : Nat) (ch : Int32) (f : Nat → Int32) (q : Int32) (hq : ¬ (0 ≤ q ∧ q < nI n)) : pw_Mp l yX1_hasThingAt wsX1_hasThingAt ({ frames := 0, cells := 0, slots := 0, locals := 0 } : Room) D cI cP cR [.ref o, .int (q)] ([(o, .inr (1, [.ref a, .int (nI n), .int (ch)])), (a, .inl (cI, 60, .inl (f)))]) (.int (nI 0)) := by
  have h := c_hasThingAt l D cI cP cR o a n ch f q
  rw [if_neg hq] at h
  exact h
theorem c_canPutAt_t (l : Launch) (D : va_G) (cI cP cR : ClassId) (o a n : Nat) (ch : Int32) (f : Nat → Int32) (j : Nat) (hn : n ≤ 60) (hj : j ≤ n) : pw_Mp l yX1_canPutAt wsX1_canPutAt ({ frames := 0, cells := 0, slots := 0, locals := 0 } : Room) D cI cP cR [.ref o, .int (nI j)] ([(o, .inr (1, [.ref a, .int (nI n), .int (ch)])), (a, .inl (cI, 60, .inl (f)))]) (.int (nI 1)) := by
  have h := c_canPutAt l D cI cP cR o a n ch f (nI j)
  rw [if_pos ⟨pw_ge0 (by omega), (pw_leN (by omega) (by omega)).mpr (by omega)⟩] at h
  exact h
theorem c_canPutAt_f (l : Launch) (D : va_G) (cI cP cR : ClassId) (o a n : Nat) (ch : Int32) (f : Nat → Int32) (q : Int32) (hq : ¬ (0 ≤ q ∧ q ≤ nI n)) : pw_Mp l yX1_canPutAt wsX1_canPutAt ({ frames := 0, cells := 0, slots := 0, locals := 0 } : Room) D cI cP cR [.ref o, .int (q)] ([(o, .inr (1, [.ref a, .int (nI n), .int (ch)])), (a, .inl (cI, 60, .inl (f)))]) (.int (nI 0)) := by
  have h := c_canPutAt l D cI cP cR o a n ch f q
  rw [if_neg hq] at h
  exact h
theorem c_hasRoomFor_t (l : Launch) (D : va_G) (cI cP cR : ClassId) (o a n : Nat) (ch : Int32) (f : Nat → Int32) (k : Nat) (hk : n + k ≤ 60) : pw_Mp l yX1_hasRoomFor wsX1_hasRoomFor ({ frames := 0, cells := 0, slots := 0, locals := 0 } : Room) D cI cP cR [.ref o, .int (nI k)] ([(o, .inr (1, [.ref a, .int (nI n), .int (ch)])), (a, .inl (cI, 60, .inl (f)))]) (.int (nI 1)) := by
  have h := c_hasRoomFor l D cI cP cR o a n ch f k (by omega) (by omega)
  rw [if_pos hk] at h
  exact h
theorem c_hasRoomFor_f (l : Launch) (D : va_G) (cI cP cR : ClassId) (o a n : Nat) (ch : Int32) (f : Nat → Int32) (k : Nat) (hn : n ≤ 60) (hk0 : k ≤ 60) (hk : ¬ n + k ≤ 60) : pw_Mp l yX1_hasRoomFor wsX1_hasRoomFor ({ frames := 0, cells := 0, slots := 0, locals := 0 } : Room) D cI cP cR [.ref o, .int (nI k)] ([(o, .inr (1, [.ref a, .int (nI n), .int (ch)])), (a, .inl (cI, 60, .inl (f)))]) (.int (nI 0)) := by
  have h := c_hasRoomFor l D cI cP cR o a n ch f k hn hk0
  rw [if_neg hk] at h
  exact h
theorem hi_X0_standIn_0 : ∀ w ∈ u_ws RX0 TX0 6, w ∈ wsX0_standIn := by decide +kernel
theorem hi_X0_standIn_1 : ∀ w ∈ u_ws RX1 TX1 3, w ∈ wsX0_standIn := by decide +kernel
theorem hf_X0_standIn_9 : Cond.fieldLink RX0 9 "Pegrow$Peg" "hand" "I" ∈ wsX0_standIn := by decide +kernel
theorem hf_X0_standIn_15 : Cond.fieldLink RX0 15 "Pegrow$Peg" "row" "LPegrow$Row;" ∈ wsX0_standIn := by decide +kernel
theorem hf_X0_standIn_19 : Cond.fieldLink RX0 19 "Pegrow$Peg" "ahead" "I" ∈ wsX0_standIn := by decide +kernel
theorem hf_X0_standIn_27 : Cond.fieldLink RX0 27 "Pegrow$Peg" "seen" "I" ∈ wsX0_standIn := by decide +kernel
theorem hf_X0_standIn_30 : Cond.fieldLink RX0 30 "Pegrow$Peg" "missed" "Z" ∈ wsX0_standIn := by decide +kernel
set_option maxHeartbeats 4000000 in
set_option maxRecDepth 100000 in
theorem c_standIn (l : Launch) (D : va_G) (cI cP cR : ClassId) (b : Nat) (pa ps ph pt pm : Int32) (pv : Value) (o a n : Nat) (ch : Int32) (f : Nat → Int32) (q : Int32) : pw_Mm l yX0_standIn wsX0_standIn ({ frames := 0, cells := 0, slots := 0, locals := 0 } : Room) D cI cP cR [.ref b, .ref o, .int (q)] ([(b, .inr (0, [pv, .int (pa), .int (ps), .int (ph), .int (pt), .int (pm)])), (o, .inr (1, [.ref a, .int (nI n), .int (ch)])), (a, .inl (cI, 60, .inl (f)))]) (fun v w => v = none ∧ w = [(b, .inr (0, [.ref o, .int (q), .int (ch), .int (-1), .int (pt), .int (nI 0)])), (o, .inr (1, [.ref a, .int (nI n), .int (ch)])), (a, .inl (cI, 60, .inl (f)))]) := by
  refine pw_ofm (cc := cX0_standIn) (maxL := 3) (ret := none) (own := RX0) (by decide +kernel) rfl rfl (Nat.le_of_ble_eq_true rfl) ?_
  intro p_ e_ s m bel meth cd A hE hK hP hD hA hS ls hl
  obtain ⟨hx, hb, hr, hml, hown, hts, hlocks⟩ := hE
  have hNW := hK.2
  have hl : lv_has ls 3 [(0, .ref b), (1, .ref o), (2, .int (q))] := hl
  refine lv_aload_n hx hb dX0_standIn_0 rfl (lv_at hl 0 rfl) ?_
  refine lv_aload_n hx hb dX0_standIn_1 rfl (lv_at hl 1 rfl) ?_
  refine va_put (D := D) (ci := 0) (v := .ref o) (ty := .object "Pegrow$Row") (C := RX0) (T := TX0) (N := 6) hx hb hts hi_X0_standIn_0 tyX0 tyX0_ok nmX0 hown hK.1 hP hD hS 0 rfl rfl 0 (by decide) (hts _ hf_X0_standIn_15) (fun _ h9 => h9) rfl (by decide +kernel) rfl rfl (Nat.le_of_ble_eq_true rfl) dX0_standIn_2 (fun H locs hP hD hS => ?_)
  have hP : va_P D vwCl ([(b, .inr (0, [.ref o, .int (pa), .int (ps), .int (ph), .int (pt), .int (pm)])), (o, .inr (1, [.ref a, .int (nI n), .int (ch)])), (a, .inl (cI, 60, .inl (f)))]) H := hP
  have hD : va_D A ([(b, .inr (0, [.ref o, .int (pa), .int (ps), .int (ph), .int (pt), .int (pm)])), (o, .inr (1, [.ref a, .int (nI n), .int (ch)])), (a, .inl (cI, 60, .inl (f)))]) := hD
  refine lv_aload_n hx hb dX0_standIn_5 rfl (lv_at hl 0 rfl) ?_
  refine lv_iload_n hx hb dX0_standIn_6 rfl (lv_at hl 2 rfl) ?_
  refine va_put (D := D) (ci := 0) (v := .int (q)) (ty := .int) (C := RX0) (T := TX0) (N := 6) hx hb hts hi_X0_standIn_0 tyX0 tyX0_ok nmX0 hown hK.1 hP hD hS 0 rfl rfl 1 (by decide) (hts _ hf_X0_standIn_19) (fun _ h9 => h9) rfl (by decide +kernel) rfl rfl (Nat.le_of_ble_eq_true rfl) dX0_standIn_7 (fun H locs hP hD hS => ?_)
  have hP : va_P D vwCl ([(b, .inr (0, [.ref o, .int (q), .int (ps), .int (ph), .int (pt), .int (pm)])), (o, .inr (1, [.ref a, .int (nI n), .int (ch)])), (a, .inl (cI, 60, .inl (f)))]) H := hP
  have hD : va_D A ([(b, .inr (0, [.ref o, .int (q), .int (ps), .int (ph), .int (pt), .int (pm)])), (o, .inr (1, [.ref a, .int (nI n), .int (ch)])), (a, .inl (cI, 60, .inl (f)))]) := hD
  refine lv_aload_n hx hb dX0_standIn_10 rfl (lv_at hl 0 rfl) ?_
  refine lv_aload_n hx hb dX0_standIn_11 rfl (lv_at hl 1 rfl) ?_
  refine va_getN (D := D) (ci := 1) (v := .int (ch)) (C := RX1) (T := TX1) (N := 3) hx hb hts hi_X0_standIn_1 hown hK.1 hP 1 rfl rfl 2 (by decide) (va_Nw.use rfl hNW.2.2.2.2.2.2.1) (fun _ h9 => h9) rfl dX0_standIn_12 ?_
  refine va_put (D := D) (ci := 0) (v := .int (ch)) (ty := .int) (C := RX0) (T := TX0) (N := 6) hx hb hts hi_X0_standIn_0 tyX0 tyX0_ok nmX0 hown hK.1 hP hD hS 0 rfl rfl 2 (by decide) (hts _ hf_X0_standIn_27) (fun _ h9 => h9) rfl (by decide +kernel) rfl rfl (Nat.le_of_ble_eq_true rfl) dX0_standIn_15 (fun H locs hP hD hS => ?_)
  have hP : va_P D vwCl ([(b, .inr (0, [.ref o, .int (q), .int (ch), .int (ph), .int (pt), .int (pm)])), (o, .inr (1, [.ref a, .int (nI n), .int (ch)])), (a, .inl (cI, 60, .inl (f)))]) H := hP
  have hD : va_D A ([(b, .inr (0, [.ref o, .int (q), .int (ch), .int (ph), .int (pt), .int (pm)])), (o, .inr (1, [.ref a, .int (nI n), .int (ch)])), (a, .inl (cI, 60, .inl (f)))]) := hD
  refine lv_aload_n hx hb dX0_standIn_18 rfl (lv_at hl 0 rfl) ?_
  refine lv_iconst (v := -1) hx hb dX0_standIn_19 (by decide) ?_
  refine va_put (D := D) (ci := 0) (v := .int (-1)) (ty := .int) (C := RX0) (T := TX0) (N := 6) hx hb hts hi_X0_standIn_0 tyX0 tyX0_ok nmX0 hown hK.1 hP hD hS 0 rfl rfl 3 (by decide) (hts _ hf_X0_standIn_9) (fun _ h9 => h9) rfl (by decide +kernel) rfl rfl (Nat.le_of_ble_eq_true rfl) dX0_standIn_20 (fun H locs hP hD hS => ?_)
  have hP : va_P D vwCl ([(b, .inr (0, [.ref o, .int (q), .int (ch), .int (-1), .int (pt), .int (pm)])), (o, .inr (1, [.ref a, .int (nI n), .int (ch)])), (a, .inl (cI, 60, .inl (f)))]) H := hP
  have hD : va_D A ([(b, .inr (0, [.ref o, .int (q), .int (ch), .int (-1), .int (pt), .int (pm)])), (o, .inr (1, [.ref a, .int (nI n), .int (ch)])), (a, .inl (cI, 60, .inl (f)))]) := hD
  refine lv_aload_n hx hb dX0_standIn_23 rfl (lv_at hl 0 rfl) ?_
  refine lv_iconst (v := nI 0) hx hb dX0_standIn_24 (by decide) ?_
  refine va_put (D := D) (ci := 0) (v := .int (nI 0)) (ty := .boolean) (C := RX0) (T := TX0) (N := 6) hx hb hts hi_X0_standIn_0 tyX0 tyX0_ok nmX0 hown hK.1 hP hD hS 0 rfl rfl 5 (by decide) (hts _ hf_X0_standIn_30) (fun _ h9 => h9) rfl (by decide +kernel) rfl rfl (Nat.le_of_ble_eq_true rfl) dX0_standIn_25 (fun H locs hP hD hS => ?_)
  have hP : va_P D vwCl ([(b, .inr (0, [.ref o, .int (q), .int (ch), .int (-1), .int (pt), .int (nI 0)])), (o, .inr (1, [.ref a, .int (nI n), .int (ch)])), (a, .inl (cI, 60, .inl (f)))]) H := hP
  have hD : va_D A ([(b, .inr (0, [.ref o, .int (q), .int (ch), .int (-1), .int (pt), .int (nI 0)])), (o, .inr (1, [.ref a, .int (nI n), .int (ch)])), (a, .inl (cI, 60, .inl (f)))]) := hD
  exact pw_vret hx hb hr hlocks dX0_standIn_28 hS hP hD (⟨rfl, rfl⟩)
theorem hi_X0_leave_0 : ∀ w ∈ u_ws RX0 TX0 6, w ∈ wsX0_leave := by decide +kernel
theorem hf_X0_leave_15 : Cond.fieldLink RX0 15 "Pegrow$Peg" "row" "LPegrow$Row;" ∈ wsX0_leave := by decide +kernel
set_option maxHeartbeats 4000000 in
set_option maxRecDepth 100000 in
theorem c_leave (l : Launch) (D : va_G) (cI cP cR : ClassId) (b : Nat) (pa ps ph pt pm : Int32) (pr : Option Nat) (o : Nat) : pw_Mm l yX0_leave wsX0_leave ({ frames := 0, cells := 0, slots := 0, locals := 0 } : Room) D cI cP cR [.ref b, .ref o] ([(b, .inr (0, [va_rf (pr), .int (pa), .int (ps), .int (ph), .int (pt), .int (pm)]))]) (fun v w => v = none ∧ w = [(b, .inr (0, [va_rf (if pr = some o then none else pr), .int (pa), .int (ps), .int (ph), .int (pt), .int (pm)]))]) := by
  refine pw_ofm (cc := cX0_leave) (maxL := 2) (ret := none) (own := RX0) (by decide +kernel) rfl rfl (Nat.le_of_ble_eq_true rfl) ?_
  intro p_ e_ s m bel meth cd A hE hK hP hD hA hS ls hl
  obtain ⟨hx, hb, hr, hml, hown, hts, hlocks⟩ := hE
  have hNW := hK.2
  have hl : lv_has ls 2 [(0, .ref b), (1, .ref o)] := hl
  refine lv_aload_n hx hb dX0_leave_0 rfl (lv_at hl 0 rfl) ?_
  refine va_get (D := D) (ci := 0) (v := va_rf (pr)) (C := RX0) (T := TX0) (N := 6) hx hb hts hi_X0_leave_0 hown hK.1 hP 0 rfl rfl 0 (by decide) (hts _ hf_X0_leave_15) (fun _ h9 => h9) rfl dX0_leave_1 ?_
  refine lv_aload_n hx hb dX0_leave_4 rfl (lv_at hl 1 rfl) ?_
  refine lv_acmp_ne (rx := pr) (ry := (some o)) (tgt := 13) hx hb dX0_leave_5 (by decide) (fun c_1 => ?_) (fun c_1 => ?_)
  · have _h := c_1
    exact pw_vret hx hb hr hlocks dX0_leave_13 hS hP hD (⟨rfl, by rw [if_neg (by assumption)]⟩)
  · have _h := c_1
    refine lv_aload_n hx hb dX0_leave_8 rfl (lv_at hl 0 rfl) ?_
    refine lv_null hx hb dX0_leave_9 ?_
    refine va_put (D := D) (ci := 0) (v := .null) (ty := .object "Pegrow$Row") (C := RX0) (T := TX0) (N := 6) hx hb hts hi_X0_leave_0 tyX0 tyX0_ok nmX0 hown hK.1 hP hD hS 0 rfl rfl 0 (by decide) (hts _ hf_X0_leave_15) (fun _ h9 => h9) rfl (by decide +kernel) rfl rfl (Nat.le_of_ble_eq_true rfl) dX0_leave_10 (fun H locs hP hD hS => ?_)
    have hP : va_P D vwCl ([(b, .inr (0, [.null, .int (pa), .int (ps), .int (ph), .int (pt), .int (pm)]))]) H := hP
    have hD : va_D A ([(b, .inr (0, [.null, .int (pa), .int (ps), .int (ph), .int (pt), .int (pm)]))]) := hD
    exact pw_vret hx hb hr hlocks dX0_leave_13 hS hP hD (⟨rfl, by rw [if_pos (by assumption)]; rfl⟩)
theorem hi_X0_hold_0 : ∀ w ∈ u_ws RX0 TX0 6, w ∈ wsX0_hold := by decide +kernel
theorem hf_X0_hold_9 : Cond.fieldLink RX0 9 "Pegrow$Peg" "hand" "I" ∈ wsX0_hold := by decide +kernel
theorem hf_X0_hold_30 : Cond.fieldLink RX0 30 "Pegrow$Peg" "missed" "Z" ∈ wsX0_hold := by decide +kernel
theorem hf_X0_hold_34 : Cond.fieldLink RX0 34 "Pegrow$Peg" "held" "I" ∈ wsX0_hold := by decide +kernel
set_option maxHeartbeats 4000000 in
set_option maxRecDepth 100000 in
theorem c_hold (l : Launch) (D : va_G) (cI cP cR : ClassId) (b : Nat) (pa ps ph pt pm : Int32) (pr : Option Nat) (q x : Int32) : pw_Mm l yX0_hold wsX0_hold ({ frames := 0, cells := 0, slots := 0, locals := 0 } : Room) D cI cP cR [.ref b, .int (q), .int (x)] ([(b, .inr (0, [va_rf (pr), .int (pa), .int (ps), .int (ph), .int (pt), .int (pm)]))]) (fun v w => v = some (.int (x)) ∧ w = [(b, .inr (0, [va_rf (pr), .int (pa), .int (ps), .int (q), .int (x), .int (nI 0)]))]) := by
  refine pw_ofm (cc := cX0_hold) (maxL := 3) (ret := (some .int)) (own := RX0) (by decide +kernel) rfl rfl (Nat.le_of_ble_eq_true rfl) ?_
  intro p_ e_ s m bel meth cd A hE hK hP hD hA hS ls hl
  obtain ⟨hx, hb, hr, hml, hown, hts, hlocks⟩ := hE
  have hNW := hK.2
  have hl : lv_has ls 3 [(0, .ref b), (1, .int (q)), (2, .int (x))] := hl
  refine lv_aload_n hx hb dX0_hold_0 rfl (lv_at hl 0 rfl) ?_
  refine lv_iload_n hx hb dX0_hold_1 rfl (lv_at hl 1 rfl) ?_
  refine va_put (D := D) (ci := 0) (v := .int (q)) (ty := .int) (C := RX0) (T := TX0) (N := 6) hx hb hts hi_X0_hold_0 tyX0 tyX0_ok nmX0 hown hK.1 hP hD hS 0 rfl rfl 3 (by decide) (hts _ hf_X0_hold_9) (fun _ h9 => h9) rfl (by decide +kernel) rfl rfl (Nat.le_of_ble_eq_true rfl) dX0_hold_2 (fun H locs hP hD hS => ?_)
  have hP : va_P D vwCl ([(b, .inr (0, [va_rf (pr), .int (pa), .int (ps), .int (q), .int (pt), .int (pm)]))]) H := hP
  have hD : va_D A ([(b, .inr (0, [va_rf (pr), .int (pa), .int (ps), .int (q), .int (pt), .int (pm)]))]) := hD
  refine lv_aload_n hx hb dX0_hold_5 rfl (lv_at hl 0 rfl) ?_
  refine lv_iload_n hx hb dX0_hold_6 rfl (lv_at hl 2 rfl) ?_
  refine va_put (D := D) (ci := 0) (v := .int (x)) (ty := .int) (C := RX0) (T := TX0) (N := 6) hx hb hts hi_X0_hold_0 tyX0 tyX0_ok nmX0 hown hK.1 hP hD hS 0 rfl rfl 4 (by decide) (hts _ hf_X0_hold_34) (fun _ h9 => h9) rfl (by decide +kernel) rfl rfl (Nat.le_of_ble_eq_true rfl) dX0_hold_7 (fun H locs hP hD hS => ?_)
  have hP : va_P D vwCl ([(b, .inr (0, [va_rf (pr), .int (pa), .int (ps), .int (q), .int (x), .int (pm)]))]) H := hP
  have hD : va_D A ([(b, .inr (0, [va_rf (pr), .int (pa), .int (ps), .int (q), .int (x), .int (pm)]))]) := hD
  refine lv_aload_n hx hb dX0_hold_10 rfl (lv_at hl 0 rfl) ?_
  refine lv_iconst (v := nI 0) hx hb dX0_hold_11 (by decide) ?_
  refine va_put (D := D) (ci := 0) (v := .int (nI 0)) (ty := .boolean) (C := RX0) (T := TX0) (N := 6) hx hb hts hi_X0_hold_0 tyX0 tyX0_ok nmX0 hown hK.1 hP hD hS 0 rfl rfl 5 (by decide) (hts _ hf_X0_hold_30) (fun _ h9 => h9) rfl (by decide +kernel) rfl rfl (Nat.le_of_ble_eq_true rfl) dX0_hold_12 (fun H locs hP hD hS => ?_)
  have hP : va_P D vwCl ([(b, .inr (0, [va_rf (pr), .int (pa), .int (ps), .int (q), .int (x), .int (nI 0)]))]) H := hP
  have hD : va_D A ([(b, .inr (0, [va_rf (pr), .int (pa), .int (ps), .int (q), .int (x), .int (nI 0)]))]) := hD
  refine lv_iload_n hx hb dX0_hold_15 rfl (lv_at hl 2 rfl) ?_
  exact pw_iret hx hb hr (rfl) hlocks dX0_hold_16 hS hP hD (⟨rfl, rfl⟩)
theorem hi_X0_isOld_0 : ∀ w ∈ u_ws RX0 TX0 6, w ∈ wsX0_isOld := by decide +kernel
theorem hf_X0_isOld_15 : Cond.fieldLink RX0 15 "Pegrow$Peg" "row" "LPegrow$Row;" ∈ wsX0_isOld := by decide +kernel
set_option maxHeartbeats 4000000 in
set_option maxRecDepth 100000 in
theorem c_isOld_n (l : Launch) (D : va_G) (cI cP cR : ClassId) (b : Nat) (pa ps ph pt pm : Int32) : pw_Mp l yX0_isOld wsX0_isOld ({ frames := 1, cells := 0, slots := 0, locals := 21 } : Room) D cI cP cR [.ref b] ([(b, .inr (0, [.null, .int (pa), .int (ps), .int (ph), .int (pt), .int (pm)]))]) (.int (nI 0)) := by
  refine pw_ofp (cc := cX0_isOld) (maxL := 1) (ret := (some .boolean)) (own := RX0) (by decide +kernel) rfl rfl (Nat.le_of_ble_eq_true rfl) ?_
  intro p_ e_ s m bel meth cd hE hK hP hD ls hl
  obtain ⟨hx, hb, hr, hml, hown, hts, hlocks⟩ := hE
  have hNW := hK.2
  have hl : lv_has ls 1 [(0, .ref b)] := hl
  refine lv_aload_n hx hb dX0_isOld_0 rfl (lv_at hl 0 rfl) ?_
  refine va_get (D := D) (ci := 0) (v := .null) (C := RX0) (T := TX0) (N := 6) hx hb hts hi_X0_isOld_0 hown hK.1 hP 0 rfl rfl 0 (by decide) (hts _ hf_X0_isOld_15) (fun _ h9 => h9) rfl dX0_isOld_1 ?_
  refine lv_ifnullN (tgt := 39) hx hb dX0_isOld_4 (by decide) ?_
  refine lv_iconst (v := nI 0) hx hb dX0_isOld_39 (by decide) ?_
  exact pw_piret hx hb hr (rfl) hlocks dX0_isOld_40 (rfl)
theorem c_canPutAt_y (l : Launch) (D : va_G) (cI cP cR : ClassId) (o a n : Nat) (ch : Int32) (f : Nat → Int32) (q : Int32) (hq : 0 ≤ q ∧ q ≤ nI n) : pw_Mp l yX1_canPutAt wsX1_canPutAt ({ frames := 0, cells := 0, slots := 0, locals := 0 } : Room) D cI cP cR [.ref o, .int (q)] ([(o, .inr (1, [.ref a, .int (nI n), .int (ch)])), (a, .inl (cI, 60, .inl (f)))]) (.int (nI 1)) := by
  have h := c_canPutAt l D cI cP cR o a n ch f q
  rw [if_pos hq] at h
  exact h
theorem hi_X0_isOld_1 : ∀ w ∈ u_ws RX1 TX1 3, w ∈ wsX0_isOld := by decide +kernel
theorem hf_X0_isOld_19 : Cond.fieldLink RX0 19 "Pegrow$Peg" "ahead" "I" ∈ wsX0_isOld := by decide +kernel
theorem hf_X0_isOld_27 : Cond.fieldLink RX0 27 "Pegrow$Peg" "seen" "I" ∈ wsX0_isOld := by decide +kernel
set_option maxHeartbeats 4000000 in
set_option maxRecDepth 100000 in
theorem c_isOld_r (l : Launch) (D : va_G) (cI cP cR : ClassId) (b : Nat) (pa ps ph pt pm : Int32) (o a n : Nat) (ch : Int32) (f : Nat → Int32) (hw : ps = ch → 0 ≤ pa ∧ pa ≤ nI n) : pw_Mp l yX0_isOld wsX0_isOld ({ frames := 1, cells := 0, slots := 0, locals := 21 } : Room) D cI cP cR [.ref b] ([(b, .inr (0, [.ref o, .int (pa), .int (ps), .int (ph), .int (pt), .int (pm)])), (o, .inr (1, [.ref a, .int (nI n), .int (ch)])), (a, .inl (cI, 60, .inl (f)))]) (.int (if ps = ch then 0 else 1)) := by
  refine pw_ofp (cc := cX0_isOld) (maxL := 1) (ret := (some .boolean)) (own := RX0) (by decide +kernel) rfl rfl (Nat.le_of_ble_eq_true rfl) ?_
  intro p_ e_ s m bel meth cd hE hK hP hD ls hl
  obtain ⟨hx, hb, hr, hml, hown, hts, hlocks⟩ := hE
  have hNW := hK.2
  have hl : lv_has ls 1 [(0, .ref b)] := hl
  refine lv_aload_n hx hb dX0_isOld_0 rfl (lv_at hl 0 rfl) ?_
  refine va_get (D := D) (ci := 0) (v := .ref o) (C := RX0) (T := TX0) (N := 6) hx hb hts hi_X0_isOld_0 hown hK.1 hP 0 rfl rfl 0 (by decide) (hts _ hf_X0_isOld_15) (fun _ h9 => h9) rfl dX0_isOld_1 ?_
  refine lv_ifnull hx hb dX0_isOld_4 ?_
  refine lv_aload_n hx hb dX0_isOld_7 rfl (lv_at hl 0 rfl) ?_
  refine va_get (D := D) (ci := 0) (v := .int (ps)) (C := RX0) (T := TX0) (N := 6) hx hb hts hi_X0_isOld_0 hown hK.1 hP 0 rfl rfl 2 (by decide) (hts _ hf_X0_isOld_27) (fun _ h9 => h9) rfl dX0_isOld_8 ?_
  refine lv_aload_n hx hb dX0_isOld_11 rfl (lv_at hl 0 rfl) ?_
  refine va_get (D := D) (ci := 0) (v := .ref o) (C := RX0) (T := TX0) (N := 6) hx hb hts hi_X0_isOld_0 hown hK.1 hP 0 rfl rfl 0 (by decide) (hts _ hf_X0_isOld_15) (fun _ h9 => h9) rfl dX0_isOld_12 ?_
  refine va_getN (D := D) (ci := 1) (v := .int (ch)) (C := RX1) (T := TX1) (N := 3) hx hb hts hi_X0_isOld_1 hown hK.1 hP 1 rfl rfl 2 (by decide) (va_Nw.use rfl hNW.2.2.2.2.2.2.1) (fun _ h9 => h9) rfl dX0_isOld_15 ?_
  refine lv_icmp_ne (tgt := 35) hx hb dX0_isOld_18 (by decide) (fun c_1 => ?_) (fun c_1 => ?_)
  · have _h := c_1
    refine lv_iconst (v := nI 1) hx hb dX0_isOld_35 (by decide) ?_
    refine lv_goto (tgt := 40) hx hb dX0_isOld_36 (by decide) ?_
    exact pw_piret hx hb hr (rfl) hlocks dX0_isOld_40 (by rw [if_neg (by assumption)]; rfl)
  · have _h := c_1
    refine lv_aload_n hx hb dX0_isOld_21 rfl (lv_at hl 0 rfl) ?_
    refine va_get (D := D) (ci := 0) (v := .ref o) (C := RX0) (T := TX0) (N := 6) hx hb hts hi_X0_isOld_0 hown hK.1 hP 0 rfl rfl 0 (by decide) (hts _ hf_X0_isOld_15) (fun _ h9 => h9) rfl dX0_isOld_22 ?_
    refine lv_aload_n hx hb dX0_isOld_25 rfl (lv_at hl 0 rfl) ?_
    refine va_get (D := D) (ci := 0) (v := .int (pa)) (C := RX0) (T := TX0) (N := 6) hx hb hts hi_X0_isOld_0 hown hK.1 hP 0 rfl rfl 1 (by decide) (hts _ hf_X0_isOld_19) (fun _ h9 => h9) rfl dX0_isOld_26 ?_
    -- c_canPutAt_y
    refine pw_cVp (As := [.int (pa)]) (rest := []) (wc := [(o, .inr (1, [.ref a, .int (nI n), .int (ch)])), (a, .inl (cI, 60, .inl (f)))]) ⟨hx, hb, hml, hown, hts⟩ (c_canPutAt_y l D cI cP cR o a n ch f pa (hw c_1)) (cwV 1 hts gX0_isOld_X1_canPutAt rfl rfl rfl (by decide +kernel) ⟨Nat.le_of_ble_eq_true rfl, Nat.le_of_ble_eq_true rfl⟩) hK hP hD [1, 2] rfl (by decide) 0 rfl rfl rfl rfl hl.1 rfl (Nat.le_of_ble_eq_true rfl) dX0_isOld_29 ⟨Nat.zero_le _, Nat.zero_le _⟩ ?_
    refine lv_if_ne (tgt := 39) hx hb dX0_isOld_32 (by decide) (fun c => ?_) (fun c => absurd c (by decide))
    refine lv_iconst (v := nI 0) hx hb dX0_isOld_39 (by decide) ?_
    exact pw_piret hx hb hr (rfl) hlocks dX0_isOld_40 (by rw [if_pos (by assumption)]; rfl)
theorem c_isOld_f (l : Launch) (D : va_G) (cI cP cR : ClassId) (b : Nat) (pa ps ph pt pm : Int32) (o a n : Nat) (ch : Int32) (f : Nat → Int32) (ho : ps = ch) (hw : 0 ≤ pa ∧ pa ≤ nI n) : pw_Mp l yX0_isOld wsX0_isOld ({ frames := 1, cells := 0, slots := 0, locals := 21 } : Room) D cI cP cR [.ref b] ([(b, .inr (0, [.ref o, .int (pa), .int (ps), .int (ph), .int (pt), .int (pm)])), (o, .inr (1, [.ref a, .int (nI n), .int (ch)])), (a, .inl (cI, 60, .inl (f)))]) (.int (nI 0)) := by
  have h := c_isOld_r l D cI cP cR b pa ps ph pt pm o a n ch f (fun _ => hw)
  rw [if_pos ho] at h
  exact h
theorem c_isOld_o (l : Launch) (D : va_G) (cI cP cR : ClassId) (b : Nat) (pa ps ph pt pm : Int32) (o a n : Nat) (ch : Int32) (f : Nat → Int32) (ho : ¬ ps = ch) : pw_Mp l yX0_isOld wsX0_isOld ({ frames := 1, cells := 0, slots := 0, locals := 21 } : Room) D cI cP cR [.ref b] ([(b, .inr (0, [.ref o, .int (pa), .int (ps), .int (ph), .int (pt), .int (pm)])), (o, .inr (1, [.ref a, .int (nI n), .int (ch)])), (a, .inl (cI, 60, .inl (f)))]) (.int (nI 1)) := by
  have h := c_isOld_r l D cI cP cR b pa ps ph pt pm o a n ch f (fun h => absurd h ho)
  rw [if_neg ho] at h
  exact h
theorem hi_X2_rowOf_2 : ∀ w ∈ u_ws RX2 TX2 7, w ∈ wsX2_rowOf := by decide +kernel
theorem hf_X2_rowOf_11 : Cond.fieldLink RX2 11 "Pegrow" "rows" "[LPegrow$Row;" ∈ wsX2_rowOf := by decide +kernel
set_option maxHeartbeats 4000000 in
set_option maxRecDepth 100000 in
theorem c_rowOf_i (l : Launch) (D : va_G) (cI cP cR : ClassId) (h qr qp md : Nat) (r0 r1 r2 r3 : Int32) (ro : Nat → Nat) (i : Nat) (hi : i < 3) : pw_Mp l yX2_rowOf wsX2_rowOf ({ frames := 0, cells := 0, slots := 0, locals := 0 } : Room) D cI cP cR [.ref h, .int (nI i)] ([(h, .inr (2, [.ref qr, .ref qp, .int (nI md), .int (r0), .int (r1), .int (r2), .int (r3)])), (qr, .inl (cR, 3, .inr (.inr (.inr (.inr (fun i => some (ro i)))))))]) (.ref (ro i)) := by
  refine pw_ofp (cc := cX2_rowOf) (maxL := 2) (ret := (some (.object "Pegrow$Row"))) (own := RX2) (by decide +kernel) rfl rfl (Nat.le_of_ble_eq_true rfl) ?_
  intro p_ e_ s m bel meth cd hE hK hP hD ls hl
  obtain ⟨hx, hb, hr, hml, hown, hts, hlocks⟩ := hE
  have hNW := hK.2
  have hl : lv_has ls 2 [(0, .ref h), (1, .int (nI i))] := hl
  refine lv_iload_n hx hb dX2_rowOf_0 rfl (lv_at hl 1 rfl) ?_
  refine pw_if_lt (tgt := 22) hx hb (by omega) dX2_rowOf_1 (by decide) ?_
  refine lv_iload_n hx hb dX2_rowOf_4 rfl (lv_at hl 1 rfl) ?_
  refine lv_aload_n hx hb dX2_rowOf_5 rfl (lv_at hl 0 rfl) ?_
  refine va_get (D := D) (ci := 2) (v := .ref qr) (C := RX2) (T := TX2) (N := 7) hx hb hts hi_X2_rowOf_2 hown hK.1 hP 0 rfl rfl 0 (by decide) (hts _ hf_X2_rowOf_11) (fun _ h9 => h9) rfl dX2_rowOf_6 ?_
  refine va_alen (v := nI 3) hx hb hK.1 hP 1 2 rfl rfl rfl dX2_rowOf_9 ?_
  refine pw_icmp_ge (tgt := 22) hx hb (by omega) (by omega) dX2_rowOf_10 (by decide) (fun c_1 => ?_) (fun c_1 => ?_)
  · exact absurd c_1 (by omega)
  · have _h := c_1
    refine lv_aload_n hx hb dX2_rowOf_13 rfl (lv_at hl 0 rfl) ?_
    refine va_get (D := D) (ci := 2) (v := .ref qr) (C := RX2) (T := TX2) (N := 7) hx hb hts hi_X2_rowOf_2 hown hK.1 hP 0 rfl rfl 0 (by decide) (hts _ hf_X2_rowOf_11) (fun _ h9 => h9) rfl dX2_rowOf_14 ?_
    refine lv_iload_n hx hb dX2_rowOf_17 rfl (lv_at hl 1 rfl) ?_
    refine pw_aldq hx hb hK.1 hP 1 2 rfl rfl (by decide) (by omega) dX2_rowOf_18 ?_
    refine lv_goto (tgt := 23) hx hb dX2_rowOf_19 (by decide) ?_
    exact pw_paret hx hb hr hlocks dX2_rowOf_23 (Or.inr ⟨_, rfl⟩) rfl
set_option maxHeartbeats 4000000 in
set_option maxRecDepth 100000 in
theorem c_rowOf_n (l : Launch) (D : va_G) (cI cP cR : ClassId) (h qr qp md : Nat) (r0 r1 r2 r3 : Int32) (ro : Nat → Nat) (q : Int32) (hq : ¬ (0 ≤ q ∧ q < nI 3)) : pw_Mp l yX2_rowOf wsX2_rowOf ({ frames := 0, cells := 0, slots := 0, locals := 0 } : Room) D cI cP cR [.ref h, .int (q)] ([(h, .inr (2, [.ref qr, .ref qp, .int (nI md), .int (r0), .int (r1), .int (r2), .int (r3)])), (qr, .inl (cR, 3, .inr (.inr (.inr (.inr (fun i => some (ro i)))))))]) (.null) := by
  refine pw_ofp (cc := cX2_rowOf) (maxL := 2) (ret := (some (.object "Pegrow$Row"))) (own := RX2) (by decide +kernel) rfl rfl (Nat.le_of_ble_eq_true rfl) ?_
  intro p_ e_ s m bel meth cd hE hK hP hD ls hl
  obtain ⟨hx, hb, hr, hml, hown, hts, hlocks⟩ := hE
  have hNW := hK.2
  have hl : lv_has ls 2 [(0, .ref h), (1, .int (q))] := hl
  refine lv_iload_n hx hb dX2_rowOf_0 rfl (lv_at hl 1 rfl) ?_
  refine lv_if_lt (tgt := 22) hx hb dX2_rowOf_1 (by decide) (fun c_1 => ?_) (fun c_1 => ?_)
  · have _h := c_1
    refine lv_null hx hb dX2_rowOf_22 ?_
    exact pw_paret hx hb hr hlocks dX2_rowOf_23 (Or.inl rfl) rfl
  · have _h := c_1
    refine lv_iload_n hx hb dX2_rowOf_4 rfl (lv_at hl 1 rfl) ?_
    refine lv_aload_n hx hb dX2_rowOf_5 rfl (lv_at hl 0 rfl) ?_
    refine va_get (D := D) (ci := 2) (v := .ref qr) (C := RX2) (T := TX2) (N := 7) hx hb hts hi_X2_rowOf_2 hown hK.1 hP 0 rfl rfl 0 (by decide) (hts _ hf_X2_rowOf_11) (fun _ h9 => h9) rfl dX2_rowOf_6 ?_
    refine va_alen (v := nI 3) hx hb hK.1 hP 1 2 rfl rfl rfl dX2_rowOf_9 ?_
    refine lv_icmp_ge (tgt := 22) hx hb dX2_rowOf_10 (by decide) (fun c_2 => ?_) (fun c_2 => ?_)
    · have _h := c_2
      refine lv_null hx hb dX2_rowOf_22 ?_
      exact pw_paret hx hb hr hlocks dX2_rowOf_23 (Or.inl rfl) rfl
    · exact absurd ⟨Int32.not_lt.mp c_1, Int32.not_le.mp c_2⟩ hq
theorem hi_X2_pegOf_2 : ∀ w ∈ u_ws RX2 TX2 7, w ∈ wsX2_pegOf := by decide +kernel
theorem hf_X2_pegOf_17 : Cond.fieldLink RX2 17 "Pegrow" "pegs" "[LPegrow$Peg;" ∈ wsX2_pegOf := by decide +kernel
set_option maxHeartbeats 4000000 in
set_option maxRecDepth 100000 in
theorem c_pegOf_i (l : Launch) (D : va_G) (cI cP cR : ClassId) (h qr qp md : Nat) (r0 r1 r2 r3 : Int32) (po : Nat → Nat) (i : Nat) (hi : i < 4) : pw_Mp l yX2_pegOf wsX2_pegOf ({ frames := 0, cells := 0, slots := 0, locals := 0 } : Room) D cI cP cR [.ref h, .int (nI i)] ([(h, .inr (2, [.ref qr, .ref qp, .int (nI md), .int (r0), .int (r1), .int (r2), .int (r3)])), (qp, .inl (cP, 4, .inr (.inr (.inr (.inr (fun i => some (po i)))))))]) (.ref (po i)) := by
  refine pw_ofp (cc := cX2_pegOf) (maxL := 2) (ret := (some (.object "Pegrow$Peg"))) (own := RX2) (by decide +kernel) rfl rfl (Nat.le_of_ble_eq_true rfl) ?_
  intro p_ e_ s m bel meth cd hE hK hP hD ls hl
  obtain ⟨hx, hb, hr, hml, hown, hts, hlocks⟩ := hE
  have hNW := hK.2
  have hl : lv_has ls 2 [(0, .ref h), (1, .int (nI i))] := hl
  refine lv_iload_n hx hb dX2_pegOf_0 rfl (lv_at hl 1 rfl) ?_
  refine pw_if_lt (tgt := 22) hx hb (by omega) dX2_pegOf_1 (by decide) ?_
  refine lv_iload_n hx hb dX2_pegOf_4 rfl (lv_at hl 1 rfl) ?_
  refine lv_aload_n hx hb dX2_pegOf_5 rfl (lv_at hl 0 rfl) ?_
  refine va_get (D := D) (ci := 2) (v := .ref qp) (C := RX2) (T := TX2) (N := 7) hx hb hts hi_X2_pegOf_2 hown hK.1 hP 0 rfl rfl 1 (by decide) (hts _ hf_X2_pegOf_17) (fun _ h9 => h9) rfl dX2_pegOf_6 ?_
  refine va_alen (v := nI 4) hx hb hK.1 hP 1 1 rfl rfl rfl dX2_pegOf_9 ?_
  refine pw_icmp_ge (tgt := 22) hx hb (by omega) (by omega) dX2_pegOf_10 (by decide) (fun c_1 => ?_) (fun c_1 => ?_)
  · exact absurd c_1 (by omega)
  · have _h := c_1
    refine lv_aload_n hx hb dX2_pegOf_13 rfl (lv_at hl 0 rfl) ?_
    refine va_get (D := D) (ci := 2) (v := .ref qp) (C := RX2) (T := TX2) (N := 7) hx hb hts hi_X2_pegOf_2 hown hK.1 hP 0 rfl rfl 1 (by decide) (hts _ hf_X2_pegOf_17) (fun _ h9 => h9) rfl dX2_pegOf_14 ?_
    refine lv_iload_n hx hb dX2_pegOf_17 rfl (lv_at hl 1 rfl) ?_
    refine pw_aldq hx hb hK.1 hP 1 1 rfl rfl (by decide) (by omega) dX2_pegOf_18 ?_
    refine lv_goto (tgt := 23) hx hb dX2_pegOf_19 (by decide) ?_
    exact pw_paret hx hb hr hlocks dX2_pegOf_23 (Or.inr ⟨_, rfl⟩) rfl
set_option maxHeartbeats 4000000 in
set_option maxRecDepth 100000 in
theorem c_pegOf_n (l : Launch) (D : va_G) (cI cP cR : ClassId) (h qr qp md : Nat) (r0 r1 r2 r3 : Int32) (po : Nat → Nat) (q : Int32) (hq : ¬ (0 ≤ q ∧ q < nI 4)) : pw_Mp l yX2_pegOf wsX2_pegOf ({ frames := 0, cells := 0, slots := 0, locals := 0 } : Room) D cI cP cR [.ref h, .int (q)] ([(h, .inr (2, [.ref qr, .ref qp, .int (nI md), .int (r0), .int (r1), .int (r2), .int (r3)])), (qp, .inl (cP, 4, .inr (.inr (.inr (.inr (fun i => some (po i)))))))]) (.null) := by
  refine pw_ofp (cc := cX2_pegOf) (maxL := 2) (ret := (some (.object "Pegrow$Peg"))) (own := RX2) (by decide +kernel) rfl rfl (Nat.le_of_ble_eq_true rfl) ?_
  intro p_ e_ s m bel meth cd hE hK hP hD ls hl
  obtain ⟨hx, hb, hr, hml, hown, hts, hlocks⟩ := hE
  have hNW := hK.2
  have hl : lv_has ls 2 [(0, .ref h), (1, .int (q))] := hl
  refine lv_iload_n hx hb dX2_pegOf_0 rfl (lv_at hl 1 rfl) ?_
  refine lv_if_lt (tgt := 22) hx hb dX2_pegOf_1 (by decide) (fun c_1 => ?_) (fun c_1 => ?_)
  · have _h := c_1
    refine lv_null hx hb dX2_pegOf_22 ?_
    exact pw_paret hx hb hr hlocks dX2_pegOf_23 (Or.inl rfl) rfl
  · have _h := c_1
    refine lv_iload_n hx hb dX2_pegOf_4 rfl (lv_at hl 1 rfl) ?_
    refine lv_aload_n hx hb dX2_pegOf_5 rfl (lv_at hl 0 rfl) ?_
    refine va_get (D := D) (ci := 2) (v := .ref qp) (C := RX2) (T := TX2) (N := 7) hx hb hts hi_X2_pegOf_2 hown hK.1 hP 0 rfl rfl 1 (by decide) (hts _ hf_X2_pegOf_17) (fun _ h9 => h9) rfl dX2_pegOf_6 ?_
    refine va_alen (v := nI 4) hx hb hK.1 hP 1 1 rfl rfl rfl dX2_pegOf_9 ?_
    refine lv_icmp_ge (tgt := 22) hx hb dX2_pegOf_10 (by decide) (fun c_2 => ?_) (fun c_2 => ?_)
    · have _h := c_2
      refine lv_null hx hb dX2_pegOf_22 ?_
      exact pw_paret hx hb hr hlocks dX2_pegOf_23 (Or.inl rfl) rfl
    · exact absurd ⟨Int32.not_lt.mp c_1, Int32.not_le.mp c_2⟩ hq
set_option maxHeartbeats 4000000 in
set_option maxRecDepth 100000 in
theorem c_isName (l : Launch) (D : va_G) (cI cP cR : ClassId) (q : Int32) : pw_Mp l yX2_isName wsX2_isName ({ frames := 0, cells := 0, slots := 0, locals := 0 } : Room) D cI cP cR [.int (q)] ([]) (.int (if 0 ≤ q ∧ q < nI 10 then 1 else 0)) := by
  refine pw_ofp (cc := cX2_isName) (maxL := 1) (ret := (some .boolean)) (own := RX2) (by decide +kernel) rfl rfl (Nat.le_of_ble_eq_true rfl) ?_
  intro p_ e_ s m bel meth cd hE hK hP hD ls hl
  obtain ⟨hx, hb, hr, hml, hown, hts, hlocks⟩ := hE
  have hNW := hK.2
  have hl : lv_has ls 1 [(0, .int (q))] := hl
  refine lv_iload_n hx hb dX2_isName_0 rfl (lv_at hl 0 rfl) ?_
  refine lv_if_lt (tgt := 14) hx hb dX2_isName_1 (by decide) (fun c_1 => ?_) (fun c_1 => ?_)
  · have _h := c_1
    refine lv_iconst (v := nI 0) hx hb dX2_isName_14 (by decide) ?_
    exact pw_piret hx hb hr (rfl) hlocks dX2_isName_15 (by rw [if_neg (fun h => by first | exact absurd h.1 (Int32.not_le.mpr (by assumption)) | exact absurd h.2 (Int32.not_lt.mpr (by assumption)))]; rfl)
  · have _h := c_1
    refine lv_iload_n hx hb dX2_isName_4 rfl (lv_at hl 0 rfl) ?_
    refine lv_bipush (v := nI 10) hx hb dX2_isName_5 (by decide) ?_
    refine lv_icmp_ge (tgt := 14) hx hb dX2_isName_7 (by decide) (fun c_2 => ?_) (fun c_2 => ?_)
    · have _h := c_2
      refine lv_iconst (v := nI 0) hx hb dX2_isName_14 (by decide) ?_
      exact pw_piret hx hb hr (rfl) hlocks dX2_isName_15 (by rw [if_neg (fun h => by first | exact absurd h.1 (Int32.not_le.mpr (by assumption)) | exact absurd h.2 (Int32.not_lt.mpr (by assumption)))]; rfl)
    · have _h := c_2
      refine lv_iconst (v := nI 1) hx hb dX2_isName_10 (by decide) ?_
      refine lv_goto (tgt := 15) hx hb dX2_isName_11 (by decide) ?_
      exact pw_piret hx hb hr (rfl) hlocks dX2_isName_15 (by rw [if_pos ⟨Int32.not_lt.mp (by assumption), Int32.not_le.mp (by assumption)⟩]; rfl)
theorem c_isName_t (l : Launch) (D : va_G) (cI cP cR : ClassId) (j : Nat) (hj : j < 10) : pw_Mp l yX2_isName wsX2_isName ({ frames := 0, cells := 0, slots := 0, locals := 0 } : Room) D cI cP cR [.int (nI j)] ([]) (.int (nI 1)) := by
  have h := c_isName l D cI cP cR (nI j)
  rw [if_pos ⟨pw_ge0 (by omega), (pw_ltN (by omega) (by omega)).mpr (by omega)⟩] at h
  exact h
theorem c_isName_f (l : Launch) (D : va_G) (cI cP cR : ClassId) (q : Int32) (hq : ¬ (0 ≤ q ∧ q < nI 10)) : pw_Mp l yX2_isName wsX2_isName ({ frames := 0, cells := 0, slots := 0, locals := 0 } : Room) D cI cP cR [.int (q)] ([]) (.int (nI 0)) := by
  have h := c_isName l D cI cP cR q
  rw [if_neg hq] at h
  exact h
set_option maxHeartbeats 4000000 in
set_option maxRecDepth 100000 in
theorem c_isEndWay (l : Launch) (D : va_G) (cI cP cR : ClassId) (q hi la : Int32) : pw_Mp l yX2_isEndWay wsX2_isEndWay ({ frames := 0, cells := 0, slots := 0, locals := 0 } : Room) D cI cP cR [.int (q), .int (hi), .int (la)] ([]) (.int (if 0 ≤ q ∧ q ≤ (if la = 0 then hi else nI 1) then 1 else 0)) := by
  refine pw_ofp (cc := cX2_isEndWay) (maxL := 3) (ret := (some .boolean)) (own := RX2) (by decide +kernel) rfl rfl (Nat.le_of_ble_eq_true rfl) ?_
  intro p_ e_ s m bel meth cd hE hK hP hD ls hl
  obtain ⟨hx, hb, hr, hml, hown, hts, hlocks⟩ := hE
  have hNW := hK.2
  have hl : lv_has ls 3 [(0, .int (q)), (1, .int (hi)), (2, .int (la))] := hl
  refine lv_iload_n hx hb dX2_isEndWay_0 rfl (lv_at hl 0 rfl) ?_
  refine lv_if_lt (tgt := 21) hx hb dX2_isEndWay_1 (by decide) (fun c_1 => ?_) (fun c_1 => ?_)
  · have _h := c_1
    refine lv_iconst (v := nI 0) hx hb dX2_isEndWay_21 (by decide) ?_
    exact pw_piret hx hb hr (rfl) hlocks dX2_isEndWay_22 (by rw [if_neg (fun h => absurd h.1 (Int32.not_le.mpr (by assumption)))]; rfl)
  · have _h := c_1
    refine lv_iload_n hx hb dX2_isEndWay_4 rfl (lv_at hl 0 rfl) ?_
    refine lv_iload_n hx hb dX2_isEndWay_5 rfl (lv_at hl 2 rfl) ?_
    refine lv_if_eq (tgt := 13) hx hb dX2_isEndWay_6 (by decide) (fun c_2 => ?_) (fun c_2 => ?_)
    · have _h := c_2
      refine lv_iload_n hx hb dX2_isEndWay_13 rfl (lv_at hl 1 rfl) ?_
      refine lv_icmp_gt (tgt := 21) hx hb dX2_isEndWay_14 (by decide) (fun c_3 => ?_) (fun c_3 => ?_)
      · have _h := c_3
        refine lv_iconst (v := nI 0) hx hb dX2_isEndWay_21 (by decide) ?_
        exact pw_piret hx hb hr (rfl) hlocks dX2_isEndWay_22 (by rw [if_neg (fun h => by have h2 := h.2; rw [if_pos (show la = 0 from by assumption)] at h2; exact absurd h2 (Int32.not_le.mpr (by assumption)))]; rfl)
      · have _h := c_3
        refine lv_iconst (v := nI 1) hx hb dX2_isEndWay_17 (by decide) ?_
        refine lv_goto (tgt := 22) hx hb dX2_isEndWay_18 (by decide) ?_
        exact pw_piret hx hb hr (rfl) hlocks dX2_isEndWay_22 (by rw [if_pos ⟨Int32.not_lt.mp (by assumption), by rw [if_pos (show la = 0 from by assumption)]; exact Int32.not_lt.mp (by assumption)⟩]; rfl)
    · have _h := c_2
      refine lv_iconst (v := nI 1) hx hb dX2_isEndWay_9 (by decide) ?_
      refine lv_goto (tgt := 14) hx hb dX2_isEndWay_10 (by decide) ?_
      refine lv_icmp_gt (tgt := 21) hx hb dX2_isEndWay_14 (by decide) (fun c_4 => ?_) (fun c_4 => ?_)
      · have _h := c_4
        refine lv_iconst (v := nI 0) hx hb dX2_isEndWay_21 (by decide) ?_
        exact pw_piret hx hb hr (rfl) hlocks dX2_isEndWay_22 (by rw [if_neg (fun h => by have h2 := h.2; rw [if_neg (show ¬ la = 0 from by assumption)] at h2; exact absurd h2 (Int32.not_le.mpr (by assumption)))]; rfl)
      · have _h := c_4
        refine lv_iconst (v := nI 1) hx hb dX2_isEndWay_17 (by decide) ?_
        refine lv_goto (tgt := 22) hx hb dX2_isEndWay_18 (by decide) ?_
        exact pw_piret hx hb hr (rfl) hlocks dX2_isEndWay_22 (by rw [if_pos ⟨Int32.not_lt.mp (by assumption), by rw [if_neg (show ¬ la = 0 from by assumption)]; exact Int32.not_lt.mp (by assumption)⟩]; rfl)
theorem c_isEndWay_t (l : Launch) (D : va_G) (cI cP cR : ClassId) (q hi la : Int32) (hq : 0 ≤ q ∧ q ≤ (if la = 0 then hi else nI 1)) : pw_Mp l yX2_isEndWay wsX2_isEndWay ({ frames := 0, cells := 0, slots := 0, locals := 0 } : Room) D cI cP cR [.int (q), .int (hi), .int (la)] ([]) (.int (nI 1)) := by
  have h := c_isEndWay l D cI cP cR q hi la
  rw [if_pos hq] at h
  exact h
theorem c_isEndWay_f (l : Launch) (D : va_G) (cI cP cR : ClassId) (q hi la : Int32) (hq : ¬ (0 ≤ q ∧ q ≤ (if la = 0 then hi else nI 1))) : pw_Mp l yX2_isEndWay wsX2_isEndWay ({ frames := 0, cells := 0, slots := 0, locals := 0 } : Room) D cI cP cR [.int (q), .int (hi), .int (la)] ([]) (.int (nI 0)) := by
  have h := c_isEndWay l D cI cP cR q hi la
  rw [if_neg hq] at h
  exact h
set_option maxHeartbeats 4000000 in
set_option maxRecDepth 100000 in
theorem c_oneIf (l : Launch) (D : va_G) (cI cP cR : ClassId) (q : Int32) : pw_Mp l yX2_oneIf wsX2_oneIf ({ frames := 0, cells := 0, slots := 0, locals := 0 } : Room) D cI cP cR [.int (q)] ([]) (.int (if q = 0 then 0 else 1)) := by
  refine pw_ofp (cc := cX2_oneIf) (maxL := 1) (ret := (some .int)) (own := RX2) (by decide +kernel) rfl rfl (Nat.le_of_ble_eq_true rfl) ?_
  intro p_ e_ s m bel meth cd hE hK hP hD ls hl
  obtain ⟨hx, hb, hr, hml, hown, hts, hlocks⟩ := hE
  have hNW := hK.2
  have hl : lv_has ls 1 [(0, .int (q))] := hl
  refine lv_iload_n hx hb dX2_oneIf_0 rfl (lv_at hl 0 rfl) ?_
  refine lv_if_eq (tgt := 8) hx hb dX2_oneIf_1 (by decide) (fun c_1 => ?_) (fun c_1 => ?_)
  · have _h := c_1
    refine lv_iconst (v := nI 0) hx hb dX2_oneIf_8 (by decide) ?_
    exact pw_piret hx hb hr (rfl) hlocks dX2_oneIf_9 (by rw [if_pos (by assumption)]; rfl)
  · have _h := c_1
    refine lv_iconst (v := nI 1) hx hb dX2_oneIf_4 (by decide) ?_
    refine lv_goto (tgt := 9) hx hb dX2_oneIf_5 (by decide) ?_
    exact pw_piret hx hb hr (rfl) hlocks dX2_oneIf_9 (by rw [if_neg (by assumption)]; rfl)
theorem hi_X2_newThing_2 : ∀ w ∈ u_ws RX2 TX2 7, w ∈ wsX2_newThing := by decide +kernel
theorem hf_X2_newThing_140 : Cond.fieldLink RX2 140 "Pegrow" "made" "I" ∈ wsX2_newThing := by decide +kernel
set_option maxHeartbeats 4000000 in
set_option maxRecDepth 100000 in
theorem c_newThing (l : Launch) (D : va_G) (cI cP cR : ClassId) (h qr qp md : Nat) (r0 r1 r2 r3 : Int32) (nm : Nat) : pw_Mm l yX2_newThing wsX2_newThing ({ frames := 0, cells := 0, slots := 0, locals := 0 } : Room) D cI cP cR [.ref h, .int (nI nm)] ([(h, .inr (2, [.ref qr, .ref qp, .int (nI md), .int (r0), .int (r1), .int (r2), .int (r3)]))]) (fun v w => v = some (.int (nI ((md * 10) + nm))) ∧ w = [(h, .inr (2, [.ref qr, .ref qp, .int (nI (md + 1)), .int (r0), .int (r1), .int (r2), .int (r3)]))]) := by
  refine pw_ofm (cc := cX2_newThing) (maxL := 3) (ret := (some .int)) (own := RX2) (by decide +kernel) rfl rfl (Nat.le_of_ble_eq_true rfl) ?_
  intro p_ e_ s m bel meth cd A hE hK hP hD hA hS ls hl
  obtain ⟨hx, hb, hr, hml, hown, hts, hlocks⟩ := hE
  have hNW := hK.2
  have hl : lv_has ls 3 [(0, .ref h), (1, .int (nI nm))] := hl
  refine lv_aload_n hx hb dX2_newThing_0 rfl (lv_at hl 0 rfl) ?_
  refine va_get (D := D) (ci := 2) (v := .int (nI md)) (C := RX2) (T := TX2) (N := 7) hx hb hts hi_X2_newThing_2 hown hK.1 hP 0 rfl rfl 2 (by decide) (hts _ hf_X2_newThing_140) (fun _ h9 => h9) rfl dX2_newThing_1 ?_
  refine lv_bipush (v := nI 10) hx hb dX2_newThing_4 (by decide) ?_
  refine pw_imul hx hb dX2_newThing_6 ?_
  refine lv_iload_n hx hb dX2_newThing_7 rfl (lv_at hl 1 rfl) ?_
  refine pw_iadd hx hb dX2_newThing_8 ?_
  refine lv_istore_n (lv' := [(2, .int (nI ((md * 10) + nm))), (0, .ref h), (1, .int (nI nm))]) hx hb dX2_newThing_9 rfl hl (by decide) rfl (fun ls hl => ?_)
  refine lv_aload_n hx hb dX2_newThing_10 rfl (lv_at hl 1 rfl) ?_
  refine lv_dup hx hb dX2_newThing_11 rfl ?_
  refine va_get (D := D) (ci := 2) (v := .int (nI md)) (C := RX2) (T := TX2) (N := 7) hx hb hts hi_X2_newThing_2 hown hK.1 hP 0 rfl rfl 2 (by decide) (hts _ hf_X2_newThing_140) (fun _ h9 => h9) rfl dX2_newThing_12 ?_
  refine lv_iconst (v := nI 1) hx hb dX2_newThing_15 (by decide) ?_
  refine pw_iadd hx hb dX2_newThing_16 ?_
  refine va_put (D := D) (ci := 2) (v := .int (nI (md + 1))) (ty := .int) (C := RX2) (T := TX2) (N := 7) hx hb hts hi_X2_newThing_2 tyX2 tyX2_ok nmX2 hown hK.1 hP hD hS 0 rfl rfl 2 (by decide) (hts _ hf_X2_newThing_140) (fun _ h9 => h9) rfl (by decide +kernel) rfl rfl (Nat.le_of_ble_eq_true rfl) dX2_newThing_17 (fun H locs hP hD hS => ?_)
  have hP : va_P D vwCl ([(h, .inr (2, [.ref qr, .ref qp, .int (nI (md + 1)), .int (r0), .int (r1), .int (r2), .int (r3)]))]) H := hP
  have hD : va_D A ([(h, .inr (2, [.ref qr, .ref qp, .int (nI (md + 1)), .int (r0), .int (r1), .int (r2), .int (r3)]))]) := hD
  refine lv_iload_n hx hb dX2_newThing_20 rfl (lv_at hl 0 rfl) ?_
  exact pw_iret hx hb hr (rfl) hlocks dX2_newThing_21 hS hP hD (⟨rfl, rfl⟩)
theorem hi_X2_refused_2 : ∀ w ∈ u_ws RX2 TX2 7, w ∈ wsX2_refused := by decide +kernel
theorem hf_X2_refused_143 : Cond.fieldLink RX2 143 "Pegrow" "emptyRefusals" "I" ∈ wsX2_refused := by decide +kernel
set_option maxHeartbeats 4000000 in
set_option maxRecDepth 100000 in
theorem c_refused_e (l : Launch) (D : va_G) (cI cP cR : ClassId) (h qr qp md : Nat) (r0 r1 r2 r3 : Int32) : pw_Mm l yX2_refused wsX2_refused ({ frames := 0, cells := 0, slots := 0, locals := 0 } : Room) D cI cP cR [.ref h, .int (-6)] ([(h, .inr (2, [.ref qr, .ref qp, .int (nI md), .int (r0), .int (r1), .int (r2), .int (r3)]))]) (fun v w => v = some (.int (-6)) ∧ w = [(h, .inr (2, [.ref qr, .ref qp, .int (nI md), .int (r0 + nI 1), .int (r1), .int (r2), .int (r3)]))]) := by
  refine pw_ofm (cc := cX2_refused) (maxL := 2) (ret := (some .int)) (own := RX2) (by decide +kernel) rfl rfl (Nat.le_of_ble_eq_true rfl) ?_
  intro p_ e_ s m bel meth cd A hE hK hP hD hA hS ls hl
  obtain ⟨hx, hb, hr, hml, hown, hts, hlocks⟩ := hE
  have hNW := hK.2
  have hl : lv_has ls 2 [(0, .ref h), (1, .int (-6))] := hl
  refine lv_iload_n hx hb dX2_refused_0 rfl (lv_at hl 1 rfl) ?_
  refine lv_tableIn (off := 27) (tgt := 28) hx hb dX2_refused_1 (by decide) (by decide) (by decide) (by decide) ?_
  refine lv_aload_n hx hb dX2_refused_28 rfl (lv_at hl 0 rfl) ?_
  refine lv_dup hx hb dX2_refused_29 rfl ?_
  refine va_get (D := D) (ci := 2) (v := .int (r0)) (C := RX2) (T := TX2) (N := 7) hx hb hts hi_X2_refused_2 hown hK.1 hP 0 rfl rfl 3 (by decide) (hts _ hf_X2_refused_143) (fun _ h9 => h9) rfl dX2_refused_30 ?_
  refine lv_iconst (v := nI 1) hx hb dX2_refused_33 (by decide) ?_
  refine lv_iadd hx hb dX2_refused_34 ?_
  refine va_put (D := D) (ci := 2) (v := .int (r0 + (nI 1))) (ty := .int) (C := RX2) (T := TX2) (N := 7) hx hb hts hi_X2_refused_2 tyX2 tyX2_ok nmX2 hown hK.1 hP hD hS 0 rfl rfl 3 (by decide) (hts _ hf_X2_refused_143) (fun _ h9 => h9) rfl (by decide +kernel) rfl rfl (Nat.le_of_ble_eq_true rfl) dX2_refused_35 (fun H locs hP hD hS => ?_)
  have hP : va_P D vwCl ([(h, .inr (2, [.ref qr, .ref qp, .int (nI md), .int (r0 + (nI 1)), .int (r1), .int (r2), .int (r3)]))]) H := hP
  have hD : va_D A ([(h, .inr (2, [.ref qr, .ref qp, .int (nI md), .int (r0 + (nI 1)), .int (r1), .int (r2), .int (r3)]))]) := hD
  refine lv_goto (tgt := 77) hx hb dX2_refused_38 (by decide) ?_
  refine lv_iload_n hx hb dX2_refused_77 rfl (lv_at hl 1 rfl) ?_
  exact pw_iret hx hb hr (rfl) hlocks dX2_refused_78 hS hP hD (⟨rfl, rfl⟩)
theorem hf_X2_refused_146 : Cond.fieldLink RX2 146 "Pegrow" "placeRefusals" "I" ∈ wsX2_refused := by decide +kernel
set_option maxHeartbeats 4000000 in
set_option maxRecDepth 100000 in
theorem c_refused_p (l : Launch) (D : va_G) (cI cP cR : ClassId) (h qr qp md : Nat) (r0 r1 r2 r3 : Int32) : pw_Mm l yX2_refused wsX2_refused ({ frames := 0, cells := 0, slots := 0, locals := 0 } : Room) D cI cP cR [.ref h, .int (-5)] ([(h, .inr (2, [.ref qr, .ref qp, .int (nI md), .int (r0), .int (r1), .int (r2), .int (r3)]))]) (fun v w => v = some (.int (-5)) ∧ w = [(h, .inr (2, [.ref qr, .ref qp, .int (nI md), .int (r0), .int (r1 + nI 1), .int (r2), .int (r3)]))]) := by
  refine pw_ofm (cc := cX2_refused) (maxL := 2) (ret := (some .int)) (own := RX2) (by decide +kernel) rfl rfl (Nat.le_of_ble_eq_true rfl) ?_
  intro p_ e_ s m bel meth cd A hE hK hP hD hA hS ls hl
  obtain ⟨hx, hb, hr, hml, hown, hts, hlocks⟩ := hE
  have hNW := hK.2
  have hl : lv_has ls 2 [(0, .ref h), (1, .int (-5))] := hl
  refine lv_iload_n hx hb dX2_refused_0 rfl (lv_at hl 1 rfl) ?_
  refine lv_tableIn (off := 40) (tgt := 41) hx hb dX2_refused_1 (by decide) (by decide) (by decide) (by decide) ?_
  refine lv_aload_n hx hb dX2_refused_41 rfl (lv_at hl 0 rfl) ?_
  refine lv_dup hx hb dX2_refused_42 rfl ?_
  refine va_get (D := D) (ci := 2) (v := .int (r1)) (C := RX2) (T := TX2) (N := 7) hx hb hts hi_X2_refused_2 hown hK.1 hP 0 rfl rfl 4 (by decide) (hts _ hf_X2_refused_146) (fun _ h9 => h9) rfl dX2_refused_43 ?_
  refine lv_iconst (v := nI 1) hx hb dX2_refused_46 (by decide) ?_
  refine lv_iadd hx hb dX2_refused_47 ?_
  refine va_put (D := D) (ci := 2) (v := .int (r1 + (nI 1))) (ty := .int) (C := RX2) (T := TX2) (N := 7) hx hb hts hi_X2_refused_2 tyX2 tyX2_ok nmX2 hown hK.1 hP hD hS 0 rfl rfl 4 (by decide) (hts _ hf_X2_refused_146) (fun _ h9 => h9) rfl (by decide +kernel) rfl rfl (Nat.le_of_ble_eq_true rfl) dX2_refused_48 (fun H locs hP hD hS => ?_)
  have hP : va_P D vwCl ([(h, .inr (2, [.ref qr, .ref qp, .int (nI md), .int (r0), .int (r1 + (nI 1)), .int (r2), .int (r3)]))]) H := hP
  have hD : va_D A ([(h, .inr (2, [.ref qr, .ref qp, .int (nI md), .int (r0), .int (r1 + (nI 1)), .int (r2), .int (r3)]))]) := hD
  refine lv_goto (tgt := 77) hx hb dX2_refused_51 (by decide) ?_
  refine lv_iload_n hx hb dX2_refused_77 rfl (lv_at hl 1 rfl) ?_
  exact pw_iret hx hb hr (rfl) hlocks dX2_refused_78 hS hP hD (⟨rfl, rfl⟩)
theorem hf_X2_refused_149 : Cond.fieldLink RX2 149 "Pegrow" "stateRefusals" "I" ∈ wsX2_refused := by decide +kernel
set_option maxHeartbeats 4000000 in
set_option maxRecDepth 100000 in
theorem c_refused_s (l : Launch) (D : va_G) (cI cP cR : ClassId) (h qr qp md : Nat) (r0 r1 r2 r3 : Int32) : pw_Mm l yX2_refused wsX2_refused ({ frames := 0, cells := 0, slots := 0, locals := 0 } : Room) D cI cP cR [.ref h, .int (-7)] ([(h, .inr (2, [.ref qr, .ref qp, .int (nI md), .int (r0), .int (r1), .int (r2), .int (r3)]))]) (fun v w => v = some (.int (-7)) ∧ w = [(h, .inr (2, [.ref qr, .ref qp, .int (nI md), .int (r0), .int (r1), .int (r2 + nI 1), .int (r3)]))]) := by
  refine pw_ofm (cc := cX2_refused) (maxL := 2) (ret := (some .int)) (own := RX2) (by decide +kernel) rfl rfl (Nat.le_of_ble_eq_true rfl) ?_
  intro p_ e_ s m bel meth cd A hE hK hP hD hA hS ls hl
  obtain ⟨hx, hb, hr, hml, hown, hts, hlocks⟩ := hE
  have hNW := hK.2
  have hl : lv_has ls 2 [(0, .ref h), (1, .int (-7))] := hl
  refine lv_iload_n hx hb dX2_refused_0 rfl (lv_at hl 1 rfl) ?_
  refine lv_tableIn (off := 53) (tgt := 54) hx hb dX2_refused_1 (by decide) (by decide) (by decide) (by decide) ?_
  refine lv_aload_n hx hb dX2_refused_54 rfl (lv_at hl 0 rfl) ?_
  refine lv_dup hx hb dX2_refused_55 rfl ?_
  refine va_get (D := D) (ci := 2) (v := .int (r2)) (C := RX2) (T := TX2) (N := 7) hx hb hts hi_X2_refused_2 hown hK.1 hP 0 rfl rfl 5 (by decide) (hts _ hf_X2_refused_149) (fun _ h9 => h9) rfl dX2_refused_56 ?_
  refine lv_iconst (v := nI 1) hx hb dX2_refused_59 (by decide) ?_
  refine lv_iadd hx hb dX2_refused_60 ?_
  refine va_put (D := D) (ci := 2) (v := .int (r2 + (nI 1))) (ty := .int) (C := RX2) (T := TX2) (N := 7) hx hb hts hi_X2_refused_2 tyX2 tyX2_ok nmX2 hown hK.1 hP hD hS 0 rfl rfl 5 (by decide) (hts _ hf_X2_refused_149) (fun _ h9 => h9) rfl (by decide +kernel) rfl rfl (Nat.le_of_ble_eq_true rfl) dX2_refused_61 (fun H locs hP hD hS => ?_)
  have hP : va_P D vwCl ([(h, .inr (2, [.ref qr, .ref qp, .int (nI md), .int (r0), .int (r1), .int (r2 + (nI 1)), .int (r3)]))]) H := hP
  have hD : va_D A ([(h, .inr (2, [.ref qr, .ref qp, .int (nI md), .int (r0), .int (r1), .int (r2 + (nI 1)), .int (r3)]))]) := hD
  refine lv_goto (tgt := 77) hx hb dX2_refused_64 (by decide) ?_
  refine lv_iload_n hx hb dX2_refused_77 rfl (lv_at hl 1 rfl) ?_
  exact pw_iret hx hb hr (rfl) hlocks dX2_refused_78 hS hP hD (⟨rfl, rfl⟩)
theorem hf_X2_refused_152 : Cond.fieldLink RX2 152 "Pegrow" "oldRefusals" "I" ∈ wsX2_refused := by decide +kernel
set_option maxHeartbeats 4000000 in
set_option maxRecDepth 100000 in
theorem c_refused_o (l : Launch) (D : va_G) (cI cP cR : ClassId) (h qr qp md : Nat) (r0 r1 r2 r3 : Int32) : pw_Mm l yX2_refused wsX2_refused ({ frames := 0, cells := 0, slots := 0, locals := 0 } : Room) D cI cP cR [.ref h, .int (-4)] ([(h, .inr (2, [.ref qr, .ref qp, .int (nI md), .int (r0), .int (r1), .int (r2), .int (r3)]))]) (fun v w => v = some (.int (-4)) ∧ w = [(h, .inr (2, [.ref qr, .ref qp, .int (nI md), .int (r0), .int (r1), .int (r2), .int (r3 + nI 1)]))]) := by
  refine pw_ofm (cc := cX2_refused) (maxL := 2) (ret := (some .int)) (own := RX2) (by decide +kernel) rfl rfl (Nat.le_of_ble_eq_true rfl) ?_
  intro p_ e_ s m bel meth cd A hE hK hP hD hA hS ls hl
  obtain ⟨hx, hb, hr, hml, hown, hts, hlocks⟩ := hE
  have hNW := hK.2
  have hl : lv_has ls 2 [(0, .ref h), (1, .int (-4))] := hl
  refine lv_iload_n hx hb dX2_refused_0 rfl (lv_at hl 1 rfl) ?_
  refine lv_tableOut (tgt := 67) hx hb dX2_refused_1 (Or.inr (by decide)) (by decide) ?_
  refine lv_aload_n hx hb dX2_refused_67 rfl (lv_at hl 0 rfl) ?_
  refine lv_dup hx hb dX2_refused_68 rfl ?_
  refine va_get (D := D) (ci := 2) (v := .int (r3)) (C := RX2) (T := TX2) (N := 7) hx hb hts hi_X2_refused_2 hown hK.1 hP 0 rfl rfl 6 (by decide) (hts _ hf_X2_refused_152) (fun _ h9 => h9) rfl dX2_refused_69 ?_
  refine lv_iconst (v := nI 1) hx hb dX2_refused_72 (by decide) ?_
  refine lv_iadd hx hb dX2_refused_73 ?_
  refine va_put (D := D) (ci := 2) (v := .int (r3 + (nI 1))) (ty := .int) (C := RX2) (T := TX2) (N := 7) hx hb hts hi_X2_refused_2 tyX2 tyX2_ok nmX2 hown hK.1 hP hD hS 0 rfl rfl 6 (by decide) (hts _ hf_X2_refused_152) (fun _ h9 => h9) rfl (by decide +kernel) rfl rfl (Nat.le_of_ble_eq_true rfl) dX2_refused_74 (fun H locs hP hD hS => ?_)
  have hP : va_P D vwCl ([(h, .inr (2, [.ref qr, .ref qp, .int (nI md), .int (r0), .int (r1), .int (r2), .int (r3 + (nI 1))]))]) H := hP
  have hD : va_D A ([(h, .inr (2, [.ref qr, .ref qp, .int (nI md), .int (r0), .int (r1), .int (r2), .int (r3 + (nI 1))]))]) := hD
  refine lv_iload_n hx hb dX2_refused_77 rfl (lv_at hl 1 rfl) ?_
  exact pw_iret hx hb hr (rfl) hlocks dX2_refused_78 hS hP hD (⟨rfl, rfl⟩)
set_option maxHeartbeats 4000000 in
set_option maxRecDepth 100000 in
theorem c_noEnd_e (l : Launch) (D : va_G) (cI cP cR : ClassId) (h qr qp md : Nat) (r0 r1 r2 r3 : Int32) (q : Int32) (hq : q - q / nI 2 * nI 2 = 0) : pw_Mm l yX2_noEnd wsX2_noEnd ({ frames := 1, cells := 0, slots := 0, locals := 21 } : Room) D cI cP cR [.ref h, .int (q)] ([(h, .inr (2, [.ref qr, .ref qp, .int (nI md), .int (r0), .int (r1), .int (r2), .int (r3)]))]) (fun v w => v = some (.int (-6)) ∧ w = [(h, .inr (2, [.ref qr, .ref qp, .int (nI md), .int (r0 + nI 1), .int (r1), .int (r2), .int (r3)]))]) := by
  refine pw_ofm (cc := cX2_noEnd) (maxL := 2) (ret := (some .int)) (own := RX2) (by decide +kernel) rfl rfl (Nat.le_of_ble_eq_true rfl) ?_
  intro p_ e_ s m bel meth cd A hE hK hP hD hA hS ls hl
  obtain ⟨hx, hb, hr, hml, hown, hts, hlocks⟩ := hE
  have hNW := hK.2
  have hl : lv_has ls 2 [(0, .ref h), (1, .int (q))] := hl
  refine lv_iload_n hx hb dX2_noEnd_0 rfl (lv_at hl 1 rfl) ?_
  refine lv_iconst (v := nI 2) hx hb dX2_noEnd_1 (by decide) ?_
  refine lv_irem hx hb dX2_noEnd_2 (by decide) ?_
  refine lv_if_ne (tgt := 15) hx hb dX2_noEnd_3 (by decide) (fun c_1 => ?_) (fun c_1 => ?_)
  · exact absurd hq c_1
  · have _h := c_1
    refine lv_aload_n hx hb dX2_noEnd_6 rfl (lv_at hl 0 rfl) ?_
    refine lv_bipush (v := -6) hx hb dX2_noEnd_7 (by decide) ?_
    -- c_refused_e
    refine pw_cVm (As := [.int (-6)]) (rest := []) (wc := [(h, .inr (2, [.ref qr, .ref qp, .int (nI md), .int (r0), .int (r1), .int (r2), .int (r3)]))]) (wr := []) ⟨hx, hb, hml, hown, hts⟩ (c_refused_e l D cI cP cR h qr qp md r0 r1 r2 r3) (cwV 1 hts gX2_noEnd_X2_refused rfl rfl rfl (by decide +kernel) ⟨Nat.le_of_ble_eq_true rfl, Nat.le_of_ble_eq_true rfl⟩) hK hP hD hS hA [0] [] rfl rfl (by decide) (by decide) (by decide) 0 rfl rfl rfl rfl hl.1 rfl (Nat.le_of_ble_eq_true rfl) dX2_noEnd_9 ⟨Nat.zero_le _, Nat.zero_le _⟩ (fun v1 w1 H locs hq hP hD hS => ?_)
    rcases hq with ⟨rfl, rfl⟩
    have hP : va_P D vwCl ([(h, .inr (2, [.ref qr, .ref qp, .int (nI md), .int (r0 + nI 1), .int (r1), .int (r2), .int (r3)]))]) H := hP
    have hD : va_D A ([(h, .inr (2, [.ref qr, .ref qp, .int (nI md), .int (r0 + nI 1), .int (r1), .int (r2), .int (r3)]))]) := hD
    refine W.eq (g2 := F0 m 12 ls [.int (-6)]) rfl ?_
    refine lv_goto (tgt := 17) hx hb dX2_noEnd_12 (by decide) ?_
    exact pw_iret hx hb hr (rfl) hlocks dX2_noEnd_17 hS hP hD (⟨rfl, rfl⟩)
set_option maxHeartbeats 4000000 in
set_option maxRecDepth 100000 in
theorem c_noEnd_o (l : Launch) (D : va_G) (cI cP cR : ClassId) (h qr qp md : Nat) (r0 r1 r2 r3 : Int32) (q : Int32) (hq : ¬ q - q / nI 2 * nI 2 = 0) : pw_Mp l yX2_noEnd wsX2_noEnd ({ frames := 1, cells := 0, slots := 0, locals := 21 } : Room) D cI cP cR [.ref h, .int (q)] ([(h, .inr (2, [.ref qr, .ref qp, .int (nI md), .int (r0), .int (r1), .int (r2), .int (r3)]))]) (.int (-6)) := by
  refine pw_ofp (cc := cX2_noEnd) (maxL := 2) (ret := (some .int)) (own := RX2) (by decide +kernel) rfl rfl (Nat.le_of_ble_eq_true rfl) ?_
  intro p_ e_ s m bel meth cd hE hK hP hD ls hl
  obtain ⟨hx, hb, hr, hml, hown, hts, hlocks⟩ := hE
  have hNW := hK.2
  have hl : lv_has ls 2 [(0, .ref h), (1, .int (q))] := hl
  refine lv_iload_n hx hb dX2_noEnd_0 rfl (lv_at hl 1 rfl) ?_
  refine lv_iconst (v := nI 2) hx hb dX2_noEnd_1 (by decide) ?_
  refine lv_irem hx hb dX2_noEnd_2 (by decide) ?_
  refine lv_if_ne (tgt := 15) hx hb dX2_noEnd_3 (by decide) (fun c_1 => ?_) (fun c_1 => ?_)
  · have _h := c_1
    refine lv_bipush (v := -6) hx hb dX2_noEnd_15 (by decide) ?_
    exact pw_piret hx hb hr (rfl) hlocks dX2_noEnd_17 (rfl)
  · exact absurd c_1 hq
