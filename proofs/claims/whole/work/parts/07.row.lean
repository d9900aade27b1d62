theorem hi_X1_hasThingAt_1 : ∀ w ∈ u_ws RX1 TX1 3, w ∈ wsX1_hasThingAt := by decide +kernel
theorem hf_X1_hasThingAt_15 : Cond.fieldLink RX1 15 "Pegrow$Row" "length" "I" ∈ wsX1_hasThingAt := by decide +kernel
set_option maxHeartbeats 4000000 in
set_option maxRecDepth 100000 in
theorem c_hasThingAt (l : Launch) (D : va_G) (cI cP cR : ClassId) (o a n : Nat) (ch : Int32) (f : Nat → Int32) (q : Int32) : pw_Mp l yX1_hasThingAt wsX1_hasThingAt ({ frames := 0, cells := 0, slots := 0, locals := 0 } : Room) D cI cP cR [.ref o, .int (q)] ([(o, .inr (1, [.ref a, .int (nI n), .int (ch)])), (a, .inl (cI, 60, .inl (f)))]) (.int (if 0 ≤ q ∧ q < nI n then 1 else 0)) := by
  refine pw_ofp (cc := cX1_hasThingAt) (maxL := 2) (ret := (some .boolean)) (own := RX1) (by decide +kernel) rfl rfl (Nat.le_of_ble_eq_true rfl) ?_
  intro p_ e_ s m bel meth cd hE hK hP hD ls hl
  obtain ⟨hx, hb, hr, hml, hown, hts, hlocks⟩ := hE
  have hNW := hK.2
  have hl : lv_has ls 2 [(0, .ref o), (1, .int (q))] := hl
  refine lv_iload_n hx hb dX1_hasThingAt_0 rfl (lv_at hl 1 rfl) ?_
  refine lv_if_lt (tgt := 16) hx hb dX1_hasThingAt_1 (by decide) (fun c_1 => ?_) (fun c_1 => ?_)
  · have _h := c_1
    refine lv_iconst (v := nI 0) hx hb dX1_hasThingAt_16 (by decide) ?_
    exact pw_piret hx hb hr (rfl) hlocks dX1_hasThingAt_17 (by rw [if_neg (fun h => by first | exact absurd h.1 (Int32.not_le.mpr (by assumption)) | exact absurd h.2 (Int32.not_lt.mpr (by assumption)))]; rfl)
  · have _h := c_1
    refine lv_iload_n hx hb dX1_hasThingAt_4 rfl (lv_at hl 1 rfl) ?_
    refine lv_aload_n hx hb dX1_hasThingAt_5 rfl (lv_at hl 0 rfl) ?_
    refine va_get (D := D) (ci := 1) (v := .int (nI n)) (C := RX1) (T := TX1) (N := 3) hx hb hts hi_X1_hasThingAt_1 hown hK.1 hP 0 rfl rfl 1 (by decide) (hts _ hf_X1_hasThingAt_15) (fun _ h9 => h9) rfl dX1_hasThingAt_6 ?_
    refine lv_icmp_ge (tgt := 16) hx hb dX1_hasThingAt_9 (by decide) (fun c_2 => ?_) (fun c_2 => ?_)
    · have _h := c_2
      refine lv_iconst (v := nI 0) hx hb dX1_hasThingAt_16 (by decide) ?_
      exact pw_piret hx hb hr (rfl) hlocks dX1_hasThingAt_17 (by rw [if_neg (fun h => by first | exact absurd h.1 (Int32.not_le.mpr (by assumption)) | exact absurd h.2 (Int32.not_lt.mpr (by assumption)))]; rfl)
    · have _h := c_2
      refine lv_iconst (v := nI 1) hx hb dX1_hasThingAt_12 (by decide) ?_
      refine lv_goto (tgt := 17) hx hb dX1_hasThingAt_13 (by decide) ?_
      exact pw_piret hx hb hr (rfl) hlocks dX1_hasThingAt_17 (by rw [if_pos ⟨Int32.not_lt.mp (by assumption), Int32.not_le.mp (by assumption)⟩]; rfl)
theorem hi_X1_canPutAt_1 : ∀ w ∈ u_ws RX1 TX1 3, w ∈ wsX1_canPutAt := by decide +kernel
theorem hf_X1_canPutAt_15 : Cond.fieldLink RX1 15 "Pegrow$Row" "length" "I" ∈ wsX1_canPutAt := by decide +kernel
set_option maxHeartbeats 4000000 in
set_option maxRecDepth 100000 in
theorem c_canPutAt (l : Launch) (D : va_G) (cI cP cR : ClassId) (o a n : Nat) (ch : Int32) (f : Nat → Int32) (q : Int32) : pw_Mp l yX1_canPutAt wsX1_canPutAt ({ frames := 0, cells := 0, slots := 0, locals := 0 } : Room) D cI cP cR [.ref o, .int (q)] ([(o, .inr (1, [.ref a, .int (nI n), .int (ch)])), (a, .inl (cI, 60, .inl (f)))]) (.int (if 0 ≤ q ∧ q ≤ nI n then 1 else 0)) := by
  refine pw_ofp (cc := cX1_canPutAt) (maxL := 2) (ret := (some .boolean)) (own := RX1) (by decide +kernel) rfl rfl (Nat.le_of_ble_eq_true rfl) ?_
  intro p_ e_ s m bel meth cd hE hK hP hD ls hl
  obtain ⟨hx, hb, hr, hml, hown, hts, hlocks⟩ := hE
  have hNW := hK.2
  have hl : lv_has ls 2 [(0, .ref o), (1, .int (q))] := hl
  refine lv_iload_n hx hb dX1_canPutAt_0 rfl (lv_at hl 1 rfl) ?_
  refine lv_if_lt (tgt := 16) hx hb dX1_canPutAt_1 (by decide) (fun c_1 => ?_) (fun c_1 => ?_)
  · have _h := c_1
    refine lv_iconst (v := nI 0) hx hb dX1_canPutAt_16 (by decide) ?_
    exact pw_piret hx hb hr (rfl) hlocks dX1_canPutAt_17 (by rw [if_neg (fun h => by first | exact absurd h.1 (Int32.not_le.mpr (by assumption)) | exact absurd h.2 (Int32.not_le.mpr (by assumption)))]; rfl)
  · have _h := c_1
    refine lv_iload_n hx hb dX1_canPutAt_4 rfl (lv_at hl 1 rfl) ?_
    refine lv_aload_n hx hb dX1_canPutAt_5 rfl (lv_at hl 0 rfl) ?_
    refine va_get (D := D) (ci := 1) (v := .int (nI n)) (C := RX1) (T := TX1) (N := 3) hx hb hts hi_X1_canPutAt_1 hown hK.1 hP 0 rfl rfl 1 (by decide) (hts _ hf_X1_canPutAt_15) (fun _ h9 => h9) rfl dX1_canPutAt_6 ?_
    refine lv_icmp_gt (tgt := 16) hx hb dX1_canPutAt_9 (by decide) (fun c_2 => ?_) (fun c_2 => ?_)
    · have _h := c_2
      refine lv_iconst (v := nI 0) hx hb dX1_canPutAt_16 (by decide) ?_
      exact pw_piret hx hb hr (rfl) hlocks dX1_canPutAt_17 (by rw [if_neg (fun h => by first | exact absurd h.1 (Int32.not_le.mpr (by assumption)) | exact absurd h.2 (Int32.not_le.mpr (by assumption)))]; rfl)
    · have _h := c_2
      refine lv_iconst (v := nI 1) hx hb dX1_canPutAt_12 (by decide) ?_
      refine lv_goto (tgt := 17) hx hb dX1_canPutAt_13 (by decide) ?_
      exact pw_piret hx hb hr (rfl) hlocks dX1_canPutAt_17 (by rw [if_pos ⟨Int32.not_lt.mp (by assumption), Int32.not_lt.mp (by assumption)⟩]; rfl)
theorem hi_X1_hasRoomFor_1 : ∀ w ∈ u_ws RX1 TX1 3, w ∈ wsX1_hasRoomFor := by decide +kernel
theorem hf_X1_hasRoomFor_15 : Cond.fieldLink RX1 15 "Pegrow$Row" "length" "I" ∈ wsX1_hasRoomFor := by decide +kernel
set_option maxHeartbeats 4000000 in
set_option maxRecDepth 100000 in
theorem c_hasRoomFor (l : Launch) (D : va_G) (cI cP cR : ClassId) (o a n : Nat) (ch : Int32) (f : Nat → Int32) (k : Nat) (hn : n ≤ 60) (hk : k ≤ 60) : pw_Mp l yX1_hasRoomFor wsX1_hasRoomFor ({ frames := 0, cells := 0, slots := 0, locals := 0 } : Room) D cI cP cR [.ref o, .int (nI k)] ([(o, .inr (1, [.ref a, .int (nI n), .int (ch)])), (a, .inl (cI, 60, .inl (f)))]) (.int (if n + k ≤ 60 then 1 else 0)) := by
  refine pw_ofp (cc := cX1_hasRoomFor) (maxL := 2) (ret := (some .boolean)) (own := RX1) (by decide +kernel) rfl rfl (Nat.le_of_ble_eq_true rfl) ?_
  intro p_ e_ s m bel meth cd hE hK hP hD ls hl
  obtain ⟨hx, hb, hr, hml, hown, hts, hlocks⟩ := hE
  have hNW := hK.2
  have hl : lv_has ls 2 [(0, .ref o), (1, .int (nI k))] := hl
  refine lv_aload_n hx hb dX1_hasRoomFor_0 rfl (lv_at hl 0 rfl) ?_
  refine va_get (D := D) (ci := 1) (v := .int (nI n)) (C := RX1) (T := TX1) (N := 3) hx hb hts hi_X1_hasRoomFor_1 hown hK.1 hP 0 rfl rfl 1 (by decide) (hts _ hf_X1_hasRoomFor_15) (fun _ h9 => h9) rfl dX1_hasRoomFor_1 ?_
  refine lv_iload_n hx hb dX1_hasRoomFor_4 rfl (lv_at hl 1 rfl) ?_
  refine pw_iadd hx hb dX1_hasRoomFor_5 ?_
  refine lv_bipush (v := nI 60) hx hb dX1_hasRoomFor_6 (by decide) ?_
  refine pw_icmp_gt (tgt := 15) hx hb (by omega) (by omega) dX1_hasRoomFor_8 (by decide) (fun c_1 => ?_) (fun c_1 => ?_)
  · have _h := c_1
    refine lv_iconst (v := nI 0) hx hb dX1_hasRoomFor_15 (by decide) ?_
    exact pw_piret hx hb hr (rfl) hlocks dX1_hasRoomFor_16 (by rw [if_neg (by omega)]; rfl)
  · have _h := c_1
    refine lv_iconst (v := nI 1) hx hb dX1_hasRoomFor_11 (by decide) ?_
    refine lv_goto (tgt := 16) hx hb dX1_hasRoomFor_12 (by decide) ?_
    exact pw_piret hx hb hr (rfl) hlocks dX1_hasRoomFor_16 (by rw [if_pos (by omega)]; rfl)
theorem hi_X1_thingAt_1 : ∀ w ∈ u_ws RX1 TX1 3, w ∈ wsX1_thingAt := by decide +kernel
theorem hf_X1_thingAt_9 : Cond.fieldLink RX1 9 "Pegrow$Row" "things" "[I" ∈ wsX1_thingAt := by decide +kernel
set_option maxHeartbeats 4000000 in
set_option maxRecDepth 100000 in
theorem c_thingAt (l : Launch) (D : va_G) (cI cP cR : ClassId) (o a n : Nat) (ch : Int32) (f : Nat → Int32) (j : Nat) (hj : j < 60) : pw_Mp l yX1_thingAt wsX1_thingAt ({ frames := 0, cells := 0, slots := 0, locals := 0 } : Room) D cI cP cR [.ref o, .int (nI j)] ([(o, .inr (1, [.ref a, .int (nI n), .int (ch)])), (a, .inl (cI, 60, .inl (f)))]) (.int (f j)) := by
  refine pw_ofp (cc := cX1_thingAt) (maxL := 2) (ret := (some .int)) (own := RX1) (by decide +kernel) rfl rfl (Nat.le_of_ble_eq_true rfl) ?_
  intro p_ e_ s m bel meth cd hE hK hP hD ls hl
  obtain ⟨hx, hb, hr, hml, hown, hts, hlocks⟩ := hE
  have hNW := hK.2
  have hl : lv_has ls 2 [(0, .ref o), (1, .int (nI j))] := hl
  refine lv_aload_n hx hb dX1_thingAt_0 rfl (lv_at hl 0 rfl) ?_
  refine va_get (D := D) (ci := 1) (v := .ref a) (C := RX1) (T := TX1) (N := 3) hx hb hts hi_X1_thingAt_1 hown hK.1 hP 0 rfl rfl 0 (by decide) (hts _ hf_X1_thingAt_9) (fun _ h9 => h9) rfl dX1_thingAt_1 ?_
  refine lv_iload_n hx hb dX1_thingAt_4 rfl (lv_at hl 1 rfl) ?_
  refine pw_iald hx hb hK.1 hP 1 0 rfl rfl (by decide) (by omega) dX1_thingAt_5 ?_
  exact pw_piret hx hb hr (rfl) hlocks dX1_thingAt_6 (rfl)
theorem hi_X1_layAt_1 : ∀ w ∈ u_ws RX1 TX1 3, w ∈ wsX1_layAt := by decide +kernel
theorem hf_X1_layAt_9 : Cond.fieldLink RX1 9 "Pegrow$Row" "things" "[I" ∈ wsX1_layAt := by decide +kernel
set_option maxHeartbeats 4000000 in
set_option maxRecDepth 100000 in
theorem c_layAt (l : Launch) (D : va_G) (cI cP cR : ClassId) (o a n : Nat) (ch : Int32) (f : Nat → Int32) (j : Nat) (x : Int32) (hj : j < 60) : pw_Mm l yX1_layAt wsX1_layAt ({ frames := 0, cells := 0, slots := 0, locals := 0 } : Room) D cI cP cR [.ref o, .int (nI j), .int (x)] ([(o, .inr (1, [.ref a, .int (nI n), .int (ch)])), (a, .inl (cI, 60, .inl (f)))]) (fun v w => v = some (.int (f j)) ∧ w = [(o, .inr (1, [.ref a, .int (nI n), .int (ch)])), (a, .inl (cI, 60, .inl (upd f j x)))]) := by
  refine pw_ofm (cc := cX1_layAt) (maxL := 4) (ret := (some .int)) (own := RX1) (by decide +kernel) rfl rfl (Nat.le_of_ble_eq_true rfl) ?_
  intro p_ e_ s m bel meth cd A hE hK hP hD hA hS ls hl
  obtain ⟨hx, hb, hr, hml, hown, hts, hlocks⟩ := hE
  have hNW := hK.2
  have hl : lv_has ls 4 [(0, .ref o), (1, .int (nI j)), (2, .int (x))] := hl
  refine lv_aload_n hx hb dX1_layAt_0 rfl (lv_at hl 0 rfl) ?_
  refine va_get (D := D) (ci := 1) (v := .ref a) (C := RX1) (T := TX1) (N := 3) hx hb hts hi_X1_layAt_1 hown hK.1 hP 0 rfl rfl 0 (by decide) (hts _ hf_X1_layAt_9) (fun _ h9 => h9) rfl dX1_layAt_1 ?_
  refine lv_iload_n hx hb dX1_layAt_4 rfl (lv_at hl 1 rfl) ?_
  refine pw_iald hx hb hK.1 hP 1 0 rfl rfl (by decide) (by omega) dX1_layAt_5 ?_
  refine lv_istore_n (lv' := [(3, .int (f j)), (0, .ref o), (1, .int (nI j)), (2, .int (x))]) hx hb dX1_layAt_6 rfl hl (by decide) rfl (fun ls hl => ?_)
  refine lv_aload_n hx hb dX1_layAt_7 rfl (lv_at hl 1 rfl) ?_
  refine va_get (D := D) (ci := 1) (v := .ref a) (C := RX1) (T := TX1) (N := 3) hx hb hts hi_X1_layAt_1 hown hK.1 hP 0 rfl rfl 0 (by decide) (hts _ hf_X1_layAt_9) (fun _ h9 => h9) rfl dX1_layAt_8 ?_
  refine lv_iload_n hx hb dX1_layAt_11 rfl (lv_at hl 2 rfl) ?_
  refine lv_iload_n hx hb dX1_layAt_12 rfl (lv_at hl 3 rfl) ?_
  refine pw_iast hx hb hK.1 hP hD hS 1 0 rfl rfl (by decide) (by omega) dX1_layAt_13 (fun H locs hP hD hS => ?_)
  have hP : va_P D vwCl ([(o, .inr (1, [.ref a, .int (nI n), .int (ch)])), (a, .inl (cI, 60, .inl (upd f j x)))]) H := hP
  have hD : va_D A ([(o, .inr (1, [.ref a, .int (nI n), .int (ch)])), (a, .inl (cI, 60, .inl (upd f j x)))]) := hD
  refine lv_iload_n hx hb dX1_layAt_14 rfl (lv_at hl 0 rfl) ?_
  exact pw_iret hx hb hr (rfl) hlocks dX1_layAt_15 hS hP hD (⟨rfl, rfl⟩)
theorem hi_X1_openAt_1 : ∀ w ∈ u_ws RX1 TX1 3, w ∈ wsX1_openAt := by decide +kernel
theorem hf_X1_openAt_9 : Cond.fieldLink RX1 9 "Pegrow$Row" "things" "[I" ∈ wsX1_openAt := by decide +kernel
theorem hf_X1_openAt_15 : Cond.fieldLink RX1 15 "Pegrow$Row" "length" "I" ∈ wsX1_openAt := by decide +kernel
theorem hf_X1_openAt_27 : Cond.fieldLink RX1 27 "Pegrow$Row" "changes" "I" ∈ wsX1_openAt := by decide +kernel
set_option maxHeartbeats 4000000 in
set_option maxRecDepth 100000 in
theorem c_openAt (l : Launch) (D : va_G) (cI cP cR : ClassId) (o a n : Nat) (ch : Int32) (f : Nat → Int32) (q k : Nat) (hn : n ≤ 60) (hq : q ≤ n) (hk : n + k ≤ 60) : pw_Mm l yX1_openAt wsX1_openAt ({ frames := 0, cells := 0, slots := 0, locals := 0 } : Room) D cI cP cR [.ref o, .int (nI q), .int (nI k)] ([(o, .inr (1, [.ref a, .int (nI n), .int (ch)])), (a, .inl (cI, 60, .inl (f)))]) (fun v w => v = none ∧ w = [(o, .inr (1, [.ref a, .int (nI (n + k)), .int (ch + nI 1)])), (a, .inl (cI, 60, .inl (opn f q k n)))]) := by
  refine pw_ofm (cc := cX1_openAt) (maxL := 4) (ret := none) (own := RX1) (by decide +kernel) rfl rfl (Nat.le_of_ble_eq_true rfl) ?_
  intro p_ e_ s m bel meth cd A hE hK hP hD hA hS ls hl
  obtain ⟨hx, hb, hr, hml, hown, hts, hlocks⟩ := hE
  have hNW := hK.2
  have hl : lv_has ls 4 [(0, .ref o), (1, .int (nI q)), (2, .int (nI k))] := hl
  refine lv_aload_n hx hb dX1_openAt_0 rfl (lv_at hl 0 rfl) ?_
  refine va_get (D := D) (ci := 1) (v := .int (nI n)) (C := RX1) (T := TX1) (N := 3) hx hb hts hi_X1_openAt_1 hown hK.1 hP 0 rfl rfl 1 (by decide) (hts _ hf_X1_openAt_15) (fun _ h9 => h9) rfl dX1_openAt_1 ?_
  refine lv_iconst (v := nI 1) hx hb dX1_openAt_4 (by decide) ?_
  refine lv_isub hx hb dX1_openAt_5 ?_
  refine lv_istore_n (lv' := [(3, .int ((nI n) - (nI 1))), (0, .ref o), (1, .int (nI q)), (2, .int (nI k))]) hx hb dX1_openAt_6 rfl hl (by decide) rfl (fun ls hl => ?_)
  have loop : ∀ (r : Nat), q + r ≤ n → ∀ (x3 : Int32), x3 = nI (q + r) - 1 → ∀ (H : Heap) (locs : List Loc), va_P D vwCl ([(o, .inr (1, [.ref a, .int (nI n), .int (ch)])), (a, .inl (cI, 60, .inl (opn f (q + r) k n)))]) H → va_D A ([(o, .inr (1, [.ref a, .int (nI n), .int (ch)])), (a, .inl (cI, 60, .inl (opn f (q + r) k n)))]) → va_S A s.heap H locs → ∀ ls : Array Slot, lv_has ls 4 [(3, .int (x3)), (0, .ref o), (1, .int (nI q)), (2, .int (nI k))] → W p_ l e_ ({ frames := 0, cells := 0, slots := 0, locals := 0 } : Room) s m [.ref o, .int (nI q), .int (nI k)].toArray bel meth cd H locs 0 0 (MQ bel (pw_Qm (fun v w => v = none ∧ w = [(o, .inr (1, [.ref a, .int (nI (n + k)), .int (ch + nI 1)])), (a, .inl (cI, 60, .inl (opn f q k n)))]) D A) [.ref o, .int (nI q), .int (nI k)].toArray s 0 0 A) (F0 m 7 ls []) := by
    intro r
    induction r with
    | zero =>
      intro hr1 x3 ex3 H locs hP hD hS ls hl
      subst ex3
      refine lv_iload_n hx hb dX1_openAt_7 rfl (lv_at hl 0 rfl) ?_
      refine lv_iload_n hx hb dX1_openAt_8 rfl (lv_at hl 2 rfl) ?_
      refine lv_icmp_lt (tgt := 32) hx hb dX1_openAt_9 (by decide) (fun c_1 => ?_) (fun c_1 => ?_)
      · have _h := c_1
        refine lv_aload_n hx hb dX1_openAt_32 rfl (lv_at hl 1 rfl) ?_
        refine lv_dup hx hb dX1_openAt_33 rfl ?_
        refine va_get (D := D) (ci := 1) (v := .int (nI n)) (C := RX1) (T := TX1) (N := 3) hx hb hts hi_X1_openAt_1 hown hK.1 hP 0 rfl rfl 1 (by decide) (hts _ hf_X1_openAt_15) (fun _ h9 => h9) rfl dX1_openAt_34 ?_
        refine lv_iload_n hx hb dX1_openAt_37 rfl (lv_at hl 3 rfl) ?_
        refine pw_iadd hx hb dX1_openAt_38 ?_
        refine va_put (D := D) (ci := 1) (v := .int (nI (n + k))) (ty := .int) (C := RX1) (T := TX1) (N := 3) hx hb hts hi_X1_openAt_1 tyX1 tyX1_ok nmX1 hown hK.1 hP hD hS 0 rfl rfl 1 (by decide) (hts _ hf_X1_openAt_15) (fun _ h9 => h9) rfl (by decide +kernel) rfl rfl (Nat.le_of_ble_eq_true rfl) dX1_openAt_39 (fun H locs hP hD hS => ?_)
        have hP : va_P D vwCl ([(o, .inr (1, [.ref a, .int (nI (n + k)), .int (ch)])), (a, .inl (cI, 60, .inl (opn f (q + 0) k n)))]) H := hP
        have hD : va_D A ([(o, .inr (1, [.ref a, .int (nI (n + k)), .int (ch)])), (a, .inl (cI, 60, .inl (opn f (q + 0) k n)))]) := hD
        refine lv_aload_n hx hb dX1_openAt_42 rfl (lv_at hl 1 rfl) ?_
        refine lv_dup hx hb dX1_openAt_43 rfl ?_
        refine va_get (D := D) (ci := 1) (v := .int (ch)) (C := RX1) (T := TX1) (N := 3) hx hb hts hi_X1_openAt_1 hown hK.1 hP 0 rfl rfl 2 (by decide) (hts _ hf_X1_openAt_27) (fun _ h9 => h9) rfl dX1_openAt_44 ?_
        refine lv_iconst (v := nI 1) hx hb dX1_openAt_47 (by decide) ?_
        refine lv_iadd hx hb dX1_openAt_48 ?_
        refine va_put (D := D) (ci := 1) (v := .int (ch + (nI 1))) (ty := .int) (C := RX1) (T := TX1) (N := 3) hx hb hts hi_X1_openAt_1 tyX1 tyX1_ok nmX1 hown hK.1 hP hD hS 0 rfl rfl 2 (by decide) (hts _ hf_X1_openAt_27) (fun _ h9 => h9) rfl (by decide +kernel) rfl rfl (Nat.le_of_ble_eq_true rfl) dX1_openAt_49 (fun H locs hP hD hS => ?_)
        have hP : va_P D vwCl ([(o, .inr (1, [.ref a, .int (nI (n + k)), .int (ch + (nI 1))])), (a, .inl (cI, 60, .inl (opn f (q + 0) k n)))]) H := hP
        have hD : va_D A ([(o, .inr (1, [.ref a, .int (nI (n + k)), .int (ch + (nI 1))])), (a, .inl (cI, 60, .inl (opn f (q + 0) k n)))]) := hD
        exact pw_vret hx hb hr hlocks dX1_openAt_52 hS hP hD (⟨rfl, rfl⟩)
      · exact absurd ((pw_m1lt (by omega) (by omega)).mpr (by omega)) c_1
    | succ r ih =>
      intro hr1 x3 ex3 H locs hP hD hS ls hl
      have ex3 : x3 = nI (q + r) := by rw [ex3, ← Nat.add_assoc, nI_pred]
      subst ex3
      refine lv_iload_n hx hb dX1_openAt_7 rfl (lv_at hl 0 rfl) ?_
      refine lv_iload_n hx hb dX1_openAt_8 rfl (lv_at hl 2 rfl) ?_
      refine pw_icmp_lt (tgt := 32) hx hb (by omega) (by omega) dX1_openAt_9 (by decide) (fun c_2 => ?_) (fun c_2 => ?_)
      · exact absurd c_2 (by omega)
      · have _h := c_2
        refine lv_aload_n hx hb dX1_openAt_12 rfl (lv_at hl 1 rfl) ?_
        refine va_get (D := D) (ci := 1) (v := .ref a) (C := RX1) (T := TX1) (N := 3) hx hb hts hi_X1_openAt_1 hown hK.1 hP 0 rfl rfl 0 (by decide) (hts _ hf_X1_openAt_9) (fun _ h9 => h9) rfl dX1_openAt_13 ?_
        refine lv_iload_n hx hb dX1_openAt_16 rfl (lv_at hl 0 rfl) ?_
        refine lv_iload_n hx hb dX1_openAt_17 rfl (lv_at hl 3 rfl) ?_
        refine pw_iadd hx hb dX1_openAt_18 ?_
        refine lv_aload_n hx hb dX1_openAt_19 rfl (lv_at hl 1 rfl) ?_
        refine va_get (D := D) (ci := 1) (v := .ref a) (C := RX1) (T := TX1) (N := 3) hx hb hts hi_X1_openAt_1 hown hK.1 hP 0 rfl rfl 0 (by decide) (hts _ hf_X1_openAt_9) (fun _ h9 => h9) rfl dX1_openAt_20 ?_
        refine lv_iload_n hx hb dX1_openAt_23 rfl (lv_at hl 0 rfl) ?_
        refine pw_iald hx hb hK.1 hP 1 0 rfl rfl (by decide) (by omega) dX1_openAt_24 ?_
        refine pw_iast hx hb hK.1 hP hD hS 1 0 rfl rfl (by decide) (by omega) dX1_openAt_25 (fun H locs hP hD hS => ?_)
        have hP : va_P D vwCl ([(o, .inr (1, [.ref a, .int (nI n), .int (ch)])), (a, .inl (cI, 60, .inl (upd (opn f (q + (r + 1)) k n) ((q + r) + k) ((opn f (q + (r + 1)) k n) (q + r)))))]) H := hP
        have hD : va_D A ([(o, .inr (1, [.ref a, .int (nI n), .int (ch)])), (a, .inl (cI, 60, .inl (upd (opn f (q + (r + 1)) k n) ((q + r) + k) ((opn f (q + (r + 1)) k n) (q + r)))))]) := hD
        refine lv_iinc (v := nI (q + r) + Int32.ofInt (-1)) (lv' := [(3, .int (nI (q + r) + Int32.ofInt (-1))), (0, .ref o), (1, .int (nI q)), (2, .int (nI k))]) hx hb dX1_openAt_26 hl (k := 0) rfl (rfl) (by decide) rfl (fun ls hl => ?_)
        refine lv_goto (tgt := 7) hx hb dX1_openAt_29 (by decide) ?_
        rw [opn_s f q r k n (by omega) (Or.inr trivial)] at hP hD
        exact ih (by omega) _ (pw_dec _) H locs hP hD hS ls hl
  have e0 : opn f (q + (n - q)) k n = f := opn_e f _ k n (by omega)
  exact loop (n - q) (by omega) _ (by rw [show q + (n - q) = n by omega, pw_n1]) s.heap [] (by rw [e0]; exact hP) (by rw [e0]; exact hD) hS ls hl
theorem hi_X1_putAt_1 : ∀ w ∈ u_ws RX1 TX1 3, w ∈ wsX1_putAt := by decide +kernel
theorem hf_X1_putAt_9 : Cond.fieldLink RX1 9 "Pegrow$Row" "things" "[I" ∈ wsX1_putAt := by decide +kernel
set_option maxHeartbeats 4000000 in
set_option maxRecDepth 100000 in
theorem c_putAt (l : Launch) (D : va_G) (cI cP cR : ClassId) (o a n : Nat) (ch : Int32) (f : Nat → Int32) (q : Nat) (x : Int32) (hn : n < 60) (hq : q ≤ n) : pw_Mm l yX1_putAt wsX1_putAt ({ frames := 1, cells := 0, slots := 0, locals := 23 } : Room) D cI cP cR [.ref o, .int (nI q), .int (x)] ([(o, .inr (1, [.ref a, .int (nI n), .int (ch)])), (a, .inl (cI, 60, .inl (f)))]) (fun v w => v = none ∧ w = [(o, .inr (1, [.ref a, .int (nI (n + 1)), .int (ch + nI 1)])), (a, .inl (cI, 60, .inl (upd (opn f q 1 n) q x)))]) := by
  refine pw_ofm (cc := cX1_putAt) (maxL := 3) (ret := none) (own := RX1) (by decide +kernel) rfl rfl (Nat.le_of_ble_eq_true rfl) ?_
  intro p_ e_ s m bel meth cd A hE hK hP hD hA hS ls hl
  obtain ⟨hx, hb, hr, hml, hown, hts, hlocks⟩ := hE
  have hNW := hK.2
  have hl : lv_has ls 3 [(0, .ref o), (1, .int (nI q)), (2, .int (x))] := hl
  refine lv_aload_n hx hb dX1_putAt_0 rfl (lv_at hl 0 rfl) ?_
  refine lv_iload_n hx hb dX1_putAt_1 rfl (lv_at hl 1 rfl) ?_
  refine lv_iconst (v := nI 1) hx hb dX1_putAt_2 (by decide) ?_
  -- c_openAt
  refine pw_cVm (As := [.int (nI q), .int (nI 1)]) (rest := []) (wc := [(o, .inr (1, [.ref a, .int (nI n), .int (ch)])), (a, .inl (cI, 60, .inl (f)))]) (wr := []) ⟨hx, hb, hml, hown, hts⟩ (c_openAt l D cI cP cR o a n ch f q 1 (by omega) hq (by omega)) (cwV 2 hts gX1_putAt_X1_openAt rfl rfl rfl (by decide +kernel) ⟨Nat.le_of_ble_eq_true rfl, Nat.le_of_ble_eq_true rfl⟩) hK hP hD hS hA [0, 1] [] rfl rfl (by decide) (by decide) (by decide) 0 rfl rfl rfl rfl hl.1 rfl (Nat.le_of_ble_eq_true rfl) dX1_putAt_3 ⟨Nat.zero_le _, Nat.zero_le _⟩ (fun v1 w1 H locs hq hP hD hS => ?_)
  rcases hq with ⟨rfl, rfl⟩
  have hP : va_P D vwCl ([(o, .inr (1, [.ref a, .int (nI (n + 1)), .int (ch + nI 1)])), (a, .inl (cI, 60, .inl (opn f q 1 n)))]) H := hP
  have hD : va_D A ([(o, .inr (1, [.ref a, .int (nI (n + 1)), .int (ch + nI 1)])), (a, .inl (cI, 60, .inl (opn f q 1 n)))]) := hD
  refine W.eq (g2 := F0 m 6 ls []) rfl ?_
  refine lv_aload_n hx hb dX1_putAt_6 rfl (lv_at hl 0 rfl) ?_
  refine va_get (D := D) (ci := 1) (v := .ref a) (C := RX1) (T := TX1) (N := 3) hx hb hts hi_X1_putAt_1 hown hK.1 hP 0 rfl rfl 0 (by decide) (hts _ hf_X1_putAt_9) (fun _ h9 => h9) rfl dX1_putAt_7 ?_
  refine lv_iload_n hx hb dX1_putAt_10 rfl (lv_at hl 1 rfl) ?_
  refine lv_iload_n hx hb dX1_putAt_11 rfl (lv_at hl 2 rfl) ?_
  refine pw_iast hx hb hK.1 hP hD hS 1 0 rfl rfl (by decide) (by omega) dX1_putAt_12 (fun H locs hP hD hS => ?_)
  have hP : va_P D vwCl ([(o, .inr (1, [.ref a, .int (nI (n + 1)), .int (ch + nI 1)])), (a, .inl (cI, 60, .inl (upd (opn f q 1 n) q x)))]) H := hP
  have hD : va_D A ([(o, .inr (1, [.ref a, .int (nI (n + 1)), .int (ch + nI 1)])), (a, .inl (cI, 60, .inl (upd (opn f q 1 n) q x)))]) := hD
  exact pw_vret hx hb hr hlocks dX1_putAt_13 hS hP hD (⟨rfl, rfl⟩)
theorem hi_X1_putAllAt_1 : ∀ w ∈ u_ws RX1 TX1 3, w ∈ wsX1_putAllAt := by decide +kernel
theorem hf_X1_putAllAt_9 : Cond.fieldLink RX1 9 "Pegrow$Row" "things" "[I" ∈ wsX1_putAllAt := by decide +kernel
theorem hf_X1_putAllAt_15 : Cond.fieldLink RX1 15 "Pegrow$Row" "length" "I" ∈ wsX1_putAllAt := by decide +kernel
set_option maxHeartbeats 4000000 in
set_option maxRecDepth 100000 in
theorem c_putAllAt (l : Launch) (D : va_G) (cI cP cR : ClassId) (o a n : Nat) (ch : Int32) (f : Nat → Int32) (o2 a2 n2 : Nat) (ch2 : Int32) (g : Nat → Int32) (q : Nat) (hn : n ≤ 60) (hq : q ≤ n) (hk : n + n2 ≤ 60) : pw_Mm l yX1_putAllAt wsX1_putAllAt ({ frames := 1, cells := 0, slots := 0, locals := 23 } : Room) D cI cP cR [.ref o, .int (nI q), .ref o2] ([(o, .inr (1, [.ref a, .int (nI n), .int (ch)])), (a, .inl (cI, 60, .inl (f))), (o2, .inr (1, [.ref a2, .int (nI n2), .int (ch2)])), (a2, .inl (cI, 60, .inl (g)))]) (fun v w => v = none ∧ w = [(o, .inr (1, [.ref a, .int (nI (n + n2)), .int (ch + nI 1)])), (a, .inl (cI, 60, .inl (putF (opn f q n2 n) q g n2))), (o2, .inr (1, [.ref a2, .int (nI n2), .int (ch2)])), (a2, .inl (cI, 60, .inl (g)))]) := by
  refine pw_ofm (cc := cX1_putAllAt) (maxL := 4) (ret := none) (own := RX1) (by decide +kernel) rfl rfl (Nat.le_of_ble_eq_true rfl) ?_
  intro p_ e_ s m bel meth cd A hE hK hP hD hA hS ls hl
  obtain ⟨hx, hb, hr, hml, hown, hts, hlocks⟩ := hE
  have hNW := hK.2
  have hl : lv_has ls 4 [(0, .ref o), (1, .int (nI q)), (2, .ref o2)] := hl
  refine lv_aload_n hx hb dX1_putAllAt_0 rfl (lv_at hl 0 rfl) ?_
  refine lv_iload_n hx hb dX1_putAllAt_1 rfl (lv_at hl 1 rfl) ?_
  refine lv_aload_n hx hb dX1_putAllAt_2 rfl (lv_at hl 2 rfl) ?_
  refine va_get (D := D) (ci := 1) (v := .int (nI n2)) (C := RX1) (T := TX1) (N := 3) hx hb hts hi_X1_putAllAt_1 hown hK.1 hP 2 rfl rfl 1 (by decide) (hts _ hf_X1_putAllAt_15) (fun _ h9 => h9) rfl dX1_putAllAt_3 ?_
  -- c_openAt
  refine pw_cVm (As := [.int (nI q), .int (nI n2)]) (rest := []) (wc := [(o, .inr (1, [.ref a, .int (nI n), .int (ch)])), (a, .inl (cI, 60, .inl (f)))]) (wr := [(o2, .inr (1, [.ref a2, .int (nI n2), .int (ch2)])), (a2, .inl (cI, 60, .inl (g)))]) ⟨hx, hb, hml, hown, hts⟩ (c_openAt l D cI cP cR o a n ch f q n2 (by omega) hq hk) (cwV 2 hts gX1_putAllAt_X1_openAt rfl rfl rfl (by decide +kernel) ⟨Nat.le_of_ble_eq_true rfl, Nat.le_of_ble_eq_true rfl⟩) hK hP hD hS hA [0, 1] [2, 3] rfl rfl (by decide) (by decide) (by decide) 0 rfl rfl rfl rfl hl.1 rfl (Nat.le_of_ble_eq_true rfl) dX1_putAllAt_6 ⟨Nat.zero_le _, Nat.zero_le _⟩ (fun v1 w1 H locs hq hP hD hS => ?_)
  rcases hq with ⟨rfl, rfl⟩
  have hP : va_P D vwCl ([(o2, .inr (1, [.ref a2, .int (nI n2), .int (ch2)])), (a2, .inl (cI, 60, .inl (g))), (o, .inr (1, [.ref a, .int (nI (n + n2)), .int (ch + nI 1)])), (a, .inl (cI, 60, .inl (opn f q n2 n)))]) H := hP
  have hD : va_D A ([(o2, .inr (1, [.ref a2, .int (nI n2), .int (ch2)])), (a2, .inl (cI, 60, .inl (g))), (o, .inr (1, [.ref a, .int (nI (n + n2)), .int (ch + nI 1)])), (a, .inl (cI, 60, .inl (opn f q n2 n)))]) := hD
  refine W.eq (g2 := F0 m 9 ls []) rfl ?_
  refine lv_iconst (v := nI 0) hx hb dX1_putAllAt_9 (by decide) ?_
  refine lv_istore_n (lv' := [(3, .int (nI 0)), (0, .ref o), (1, .int (nI q)), (2, .ref o2)]) hx hb dX1_putAllAt_10 rfl hl (by decide) rfl (fun ls hl => ?_)
  have loop : ∀ (r : Nat), ∀ (i : Nat), i + r = n2 → ∀ (H : Heap) (locs : List Loc), va_P D vwCl ([(o2, .inr (1, [.ref a2, .int (nI n2), .int (ch2)])), (a2, .inl (cI, 60, .inl (g))), (o, .inr (1, [.ref a, .int (nI (n + n2)), .int (ch + nI 1)])), (a, .inl (cI, 60, .inl (putF (opn f q n2 n) q g i)))]) H → va_D A ([(o2, .inr (1, [.ref a2, .int (nI n2), .int (ch2)])), (a2, .inl (cI, 60, .inl (g))), (o, .inr (1, [.ref a, .int (nI (n + n2)), .int (ch + nI 1)])), (a, .inl (cI, 60, .inl (putF (opn f q n2 n) q g i)))]) → va_S A s.heap H locs → ∀ ls : Array Slot, lv_has ls 4 [(3, .int (nI i)), (0, .ref o), (1, .int (nI q)), (2, .ref o2)] → W p_ l e_ ({ frames := 1, cells := 0, slots := 0, locals := 23 } : Room) s m [.ref o, .int (nI q), .ref o2].toArray bel meth cd H locs 0 0 (MQ bel (pw_Qm (fun v w => v = none ∧ w = [(o, .inr (1, [.ref a, .int (nI (n + n2)), .int (ch + nI 1)])), (a, .inl (cI, 60, .inl (putF (opn f q n2 n) q g n2))), (o2, .inr (1, [.ref a2, .int (nI n2), .int (ch2)])), (a2, .inl (cI, 60, .inl (g)))]) D A) [.ref o, .int (nI q), .ref o2].toArray s 0 0 A) (F0 m 11 ls []) := by
    intro r
    induction r with
    | zero =>
      intro i hr1 H locs hP hD hS ls hl
      obtain rfl : n2 = i := by omega
      refine lv_iload_n hx hb dX1_putAllAt_11 rfl (lv_at hl 0 rfl) ?_
      refine lv_aload_n hx hb dX1_putAllAt_12 rfl (lv_at hl 3 rfl) ?_
      refine va_get (D := D) (ci := 1) (v := .int (nI n2)) (C := RX1) (T := TX1) (N := 3) hx hb hts hi_X1_putAllAt_1 hown hK.1 hP 0 rfl rfl 1 (by decide) (hts _ hf_X1_putAllAt_15) (fun _ h9 => h9) rfl dX1_putAllAt_13 ?_
      refine pw_icmp_ge (tgt := 39) hx hb (by omega) (by omega) dX1_putAllAt_16 (by decide) (fun c_1 => ?_) (fun c_1 => ?_)
      · have _h := c_1
        have hP := hP.sub (ws' := [(o, .inr (1, [.ref a, .int (nI (n + n2)), .int (ch + nI 1)])), (a, .inl (cI, 60, .inl (putF (opn f q n2 n) q g n2))), (o2, .inr (1, [.ref a2, .int (nI n2), .int (ch2)])), (a2, .inl (cI, 60, .inl (g)))]) [2, 3, 0, 1] rfl
        have hD := hD.sub (ws' := [(o, .inr (1, [.ref a, .int (nI (n + n2)), .int (ch + nI 1)])), (a, .inl (cI, 60, .inl (putF (opn f q n2 n) q g n2))), (o2, .inr (1, [.ref a2, .int (nI n2), .int (ch2)])), (a2, .inl (cI, 60, .inl (g)))]) [2, 3, 0, 1] (by decide) rfl
        exact pw_vret hx hb hr hlocks dX1_putAllAt_39 hS hP hD (⟨rfl, rfl⟩)
      · exact absurd c_1 (by omega)
    | succ r ih =>
      intro i hr1 H locs hP hD hS ls hl
      refine lv_iload_n hx hb dX1_putAllAt_11 rfl (lv_at hl 0 rfl) ?_
      refine lv_aload_n hx hb dX1_putAllAt_12 rfl (lv_at hl 3 rfl) ?_
      refine va_get (D := D) (ci := 1) (v := .int (nI n2)) (C := RX1) (T := TX1) (N := 3) hx hb hts hi_X1_putAllAt_1 hown hK.1 hP 0 rfl rfl 1 (by decide) (hts _ hf_X1_putAllAt_15) (fun _ h9 => h9) rfl dX1_putAllAt_13 ?_
      refine pw_icmp_ge (tgt := 39) hx hb (by omega) (by omega) dX1_putAllAt_16 (by decide) (fun c_2 => ?_) (fun c_2 => ?_)
      · exact absurd c_2 (by omega)
      · have _h := c_2
        refine lv_aload_n hx hb dX1_putAllAt_19 rfl (lv_at hl 1 rfl) ?_
        refine va_get (D := D) (ci := 1) (v := .ref a) (C := RX1) (T := TX1) (N := 3) hx hb hts hi_X1_putAllAt_1 hown hK.1 hP 2 rfl rfl 0 (by decide) (hts _ hf_X1_putAllAt_9) (fun _ h9 => h9) rfl dX1_putAllAt_20 ?_
        refine lv_iload_n hx hb dX1_putAllAt_23 rfl (lv_at hl 2 rfl) ?_
        refine lv_iload_n hx hb dX1_putAllAt_24 rfl (lv_at hl 0 rfl) ?_
        refine pw_iadd hx hb dX1_putAllAt_25 ?_
        refine lv_aload_n hx hb dX1_putAllAt_26 rfl (lv_at hl 3 rfl) ?_
        refine va_get (D := D) (ci := 1) (v := .ref a2) (C := RX1) (T := TX1) (N := 3) hx hb hts hi_X1_putAllAt_1 hown hK.1 hP 0 rfl rfl 0 (by decide) (hts _ hf_X1_putAllAt_9) (fun _ h9 => h9) rfl dX1_putAllAt_27 ?_
        refine lv_iload_n hx hb dX1_putAllAt_30 rfl (lv_at hl 0 rfl) ?_
        refine pw_iald hx hb hK.1 hP 1 0 rfl rfl (by decide) (by omega) dX1_putAllAt_31 ?_
        refine pw_iast hx hb hK.1 hP hD hS 3 0 rfl rfl (by decide) (by omega) dX1_putAllAt_32 (fun H locs hP hD hS => ?_)
        have hP : va_P D vwCl ([(o2, .inr (1, [.ref a2, .int (nI n2), .int (ch2)])), (a2, .inl (cI, 60, .inl (g))), (o, .inr (1, [.ref a, .int (nI (n + n2)), .int (ch + nI 1)])), (a, .inl (cI, 60, .inl (upd (putF (opn f q n2 n) q g i) (q + i) (g i))))]) H := hP
        have hD : va_D A ([(o2, .inr (1, [.ref a2, .int (nI n2), .int (ch2)])), (a2, .inl (cI, 60, .inl (g))), (o, .inr (1, [.ref a, .int (nI (n + n2)), .int (ch + nI 1)])), (a, .inl (cI, 60, .inl (upd (putF (opn f q n2 n) q g i) (q + i) (g i))))]) := hD
        refine lv_iinc (v := nI (i + 1)) (lv' := [(3, .int (nI (i + 1))), (0, .ref o), (1, .int (nI q)), (2, .ref o2)]) hx hb dX1_putAllAt_33 hl (k := 0) rfl (pw_inc _ 1) (by decide) rfl (fun ls hl => ?_)
        refine lv_goto (tgt := 11) hx hb dX1_putAllAt_36 (by decide) ?_
        rw [putF_s] at hP hD
        exact ih (i + 1) (by omega) H locs hP hD hS ls hl
  exact loop n2 0 (by omega) H _ (by rw [putF_0]; exact hP) (by rw [putF_0]; exact hD) hS ls hl
theorem hi_X1_keepFirst_1 : ∀ w ∈ u_ws RX1 TX1 3, w ∈ wsX1_keepFirst := by decide +kernel
theorem hf_X1_keepFirst_15 : Cond.fieldLink RX1 15 "Pegrow$Row" "length" "I" ∈ wsX1_keepFirst := by decide +kernel
theorem hf_X1_keepFirst_27 : Cond.fieldLink RX1 27 "Pegrow$Row" "changes" "I" ∈ wsX1_keepFirst := by decide +kernel
set_option maxHeartbeats 4000000 in
set_option maxRecDepth 100000 in
theorem c_keepFirst (l : Launch) (D : va_G) (cI cP cR : ClassId) (o a n : Nat) (ch : Int32) (f : Nat → Int32) (k : Nat) (hn : n ≤ 60) (hk : k ≤ 60) : pw_Mm l yX1_keepFirst wsX1_keepFirst ({ frames := 0, cells := 0, slots := 0, locals := 0 } : Room) D cI cP cR [.ref o, .int (nI k)] ([(o, .inr (1, [.ref a, .int (nI n), .int (ch)])), (a, .inl (cI, 60, .inl (f)))]) (fun v w => v = none ∧ w = [(o, .inr (1, [.ref a, .int (nI k), .int (if k = n then ch else ch + nI 1)])), (a, .inl (cI, 60, .inl (f)))]) := by
  refine pw_ofm (cc := cX1_keepFirst) (maxL := 2) (ret := none) (own := RX1) (by decide +kernel) rfl rfl (Nat.le_of_ble_eq_true rfl) ?_
  intro p_ e_ s m bel meth cd A hE hK hP hD hA hS ls hl
  obtain ⟨hx, hb, hr, hml, hown, hts, hlocks⟩ := hE
  have hNW := hK.2
  have hl : lv_has ls 2 [(0, .ref o), (1, .int (nI k))] := hl
  refine lv_iload_n hx hb dX1_keepFirst_0 rfl (lv_at hl 1 rfl) ?_
  refine lv_aload_n hx hb dX1_keepFirst_1 rfl (lv_at hl 0 rfl) ?_
  refine va_get (D := D) (ci := 1) (v := .int (nI n)) (C := RX1) (T := TX1) (N := 3) hx hb hts hi_X1_keepFirst_1 hown hK.1 hP 0 rfl rfl 1 (by decide) (hts _ hf_X1_keepFirst_15) (fun _ h9 => h9) rfl dX1_keepFirst_2 ?_
  refine pw_icmp_eq (tgt := 23) hx hb (by omega) (by omega) dX1_keepFirst_5 (by decide) (fun c_1 => ?_) (fun c_1 => ?_)
  · have _h := c_1
    exact pw_vret hx hb hr hlocks dX1_keepFirst_23 hS hP hD (⟨rfl, by subst_vars; rw [if_pos rfl]⟩)
  · have _h := c_1
    refine lv_aload_n hx hb dX1_keepFirst_8 rfl (lv_at hl 0 rfl) ?_
    refine lv_iload_n hx hb dX1_keepFirst_9 rfl (lv_at hl 1 rfl) ?_
    refine va_put (D := D) (ci := 1) (v := .int (nI k)) (ty := .int) (C := RX1) (T := TX1) (N := 3) hx hb hts hi_X1_keepFirst_1 tyX1 tyX1_ok nmX1 hown hK.1 hP hD hS 0 rfl rfl 1 (by decide) (hts _ hf_X1_keepFirst_15) (fun _ h9 => h9) rfl (by decide +kernel) rfl rfl (Nat.le_of_ble_eq_true rfl) dX1_keepFirst_10 (fun H locs hP hD hS => ?_)
    have hP : va_P D vwCl ([(o, .inr (1, [.ref a, .int (nI k), .int (ch)])), (a, .inl (cI, 60, .inl (f)))]) H := hP
    have hD : va_D A ([(o, .inr (1, [.ref a, .int (nI k), .int (ch)])), (a, .inl (cI, 60, .inl (f)))]) := hD
    refine lv_aload_n hx hb dX1_keepFirst_13 rfl (lv_at hl 0 rfl) ?_
    refine lv_dup hx hb dX1_keepFirst_14 rfl ?_
    refine va_get (D := D) (ci := 1) (v := .int (ch)) (C := RX1) (T := TX1) (N := 3) hx hb hts hi_X1_keepFirst_1 hown hK.1 hP 0 rfl rfl 2 (by decide) (hts _ hf_X1_keepFirst_27) (fun _ h9 => h9) rfl dX1_keepFirst_15 ?_
    refine lv_iconst (v := nI 1) hx hb dX1_keepFirst_18 (by decide) ?_
    refine lv_iadd hx hb dX1_keepFirst_19 ?_
    refine va_put (D := D) (ci := 1) (v := .int (ch + (nI 1))) (ty := .int) (C := RX1) (T := TX1) (N := 3) hx hb hts hi_X1_keepFirst_1 tyX1 tyX1_ok nmX1 hown hK.1 hP hD hS 0 rfl rfl 2 (by decide) (hts _ hf_X1_keepFirst_27) (fun _ h9 => h9) rfl (by decide +kernel) rfl rfl (Nat.le_of_ble_eq_true rfl) dX1_keepFirst_20 (fun H locs hP hD hS => ?_)
    have hP : va_P D vwCl ([(o, .inr (1, [.ref a, .int (nI k), .int (ch + (nI 1))])), (a, .inl (cI, 60, .inl (f)))]) H := hP
    have hD : va_D A ([(o, .inr (1, [.ref a, .int (nI k), .int (ch + (nI 1))])), (a, .inl (cI, 60, .inl (f)))]) := hD
    exact pw_vret hx hb hr hlocks dX1_keepFirst_23 hS hP hD (⟨rfl, by rw [if_neg (by assumption)]⟩)
theorem hi_X1_takeAt_1 : ∀ w ∈ u_ws RX1 TX1 3, w ∈ wsX1_takeAt := by decide +kernel
theorem hf_X1_takeAt_9 : Cond.fieldLink RX1 9 "Pegrow$Row" "things" "[I" ∈ wsX1_takeAt := by decide +kernel
theorem hf_X1_takeAt_15 : Cond.fieldLink RX1 15 "Pegrow$Row" "length" "I" ∈ wsX1_takeAt := by decide +kernel
set_option maxHeartbeats 4000000 in
set_option maxRecDepth 100000 in
theorem c_takeAt (l : Launch) (D : va_G) (cI cP cR : ClassId) (o a n : Nat) (ch : Int32) (f : Nat → Int32) (j : Nat) (hn : n ≤ 60) (hj : j < n) : pw_Mm l yX1_takeAt wsX1_takeAt ({ frames := 1, cells := 0, slots := 0, locals := 21 } : Room) D cI cP cR [.ref o, .int (nI j)] ([(o, .inr (1, [.ref a, .int (nI n), .int (ch)])), (a, .inl (cI, 60, .inl (f)))]) (fun v w => v = some (.int (f j)) ∧ w = [(o, .inr (1, [.ref a, .int (nI (n - 1)), .int (ch + nI 1)])), (a, .inl (cI, 60, .inl (clsF f j n)))]) := by
  refine pw_ofm (cc := cX1_takeAt) (maxL := 4) (ret := (some .int)) (own := RX1) (by decide +kernel) rfl rfl (Nat.le_of_ble_eq_true rfl) ?_
  intro p_ e_ s m bel meth cd A hE hK hP hD hA hS ls hl
  obtain ⟨hx, hb, hr, hml, hown, hts, hlocks⟩ := hE
  have hNW := hK.2
  have hl : lv_has ls 4 [(0, .ref o), (1, .int (nI j))] := hl
  refine lv_aload_n hx hb dX1_takeAt_0 rfl (lv_at hl 0 rfl) ?_
  refine va_get (D := D) (ci := 1) (v := .ref a) (C := RX1) (T := TX1) (N := 3) hx hb hts hi_X1_takeAt_1 hown hK.1 hP 0 rfl rfl 0 (by decide) (hts _ hf_X1_takeAt_9) (fun _ h9 => h9) rfl dX1_takeAt_1 ?_
  refine lv_iload_n hx hb dX1_takeAt_4 rfl (lv_at hl 1 rfl) ?_
  refine pw_iald hx hb hK.1 hP 1 0 rfl rfl (by decide) (by omega) dX1_takeAt_5 ?_
  refine lv_istore_n (lv' := [(2, .int (f j)), (0, .ref o), (1, .int (nI j))]) hx hb dX1_takeAt_6 rfl hl (by decide) rfl (fun ls hl => ?_)
  refine lv_iload_n hx hb dX1_takeAt_7 rfl (lv_at hl 2 rfl) ?_
  refine lv_iconst (v := nI 1) hx hb dX1_takeAt_8 (by decide) ?_
  refine pw_iadd hx hb dX1_takeAt_9 ?_
  refine lv_istore_n (lv' := [(3, .int (nI (j + 1))), (2, .int (f j)), (0, .ref o), (1, .int (nI j))]) hx hb dX1_takeAt_10 rfl hl (by decide) rfl (fun ls hl => ?_)
  have loop : ∀ (r : Nat), ∀ (i : Nat), i + r = n → j < i → ∀ (H : Heap) (locs : List Loc), va_P D vwCl ([(o, .inr (1, [.ref a, .int (nI n), .int (ch)])), (a, .inl (cI, 60, .inl (clsF f j i)))]) H → va_D A ([(o, .inr (1, [.ref a, .int (nI n), .int (ch)])), (a, .inl (cI, 60, .inl (clsF f j i)))]) → va_S A s.heap H locs → ∀ ls : Array Slot, lv_has ls 4 [(3, .int (nI i)), (2, .int (f j)), (0, .ref o), (1, .int (nI j))] → W p_ l e_ ({ frames := 1, cells := 0, slots := 0, locals := 21 } : Room) s m [.ref o, .int (nI j)].toArray bel meth cd H locs 0 0 (MQ bel (pw_Qm (fun v w => v = some (.int (f j)) ∧ w = [(o, .inr (1, [.ref a, .int (nI (n - 1)), .int (ch + nI 1)])), (a, .inl (cI, 60, .inl (clsF f j n)))]) D A) [.ref o, .int (nI j)].toArray s 0 0 A) (F0 m 11 ls []) := by
    intro r
    induction r with
    | zero =>
      intro i hr1 hr2 H locs hP hD hS ls hl
      obtain rfl : n = i := by omega
      refine lv_iload_n hx hb dX1_takeAt_11 rfl (lv_at hl 0 rfl) ?_
      refine lv_aload_n hx hb dX1_takeAt_12 rfl (lv_at hl 2 rfl) ?_
      refine va_get (D := D) (ci := 1) (v := .int (nI n)) (C := RX1) (T := TX1) (N := 3) hx hb hts hi_X1_takeAt_1 hown hK.1 hP 0 rfl rfl 1 (by decide) (hts _ hf_X1_takeAt_15) (fun _ h9 => h9) rfl dX1_takeAt_13 ?_
      refine pw_icmp_ge (tgt := 39) hx hb (by omega) (by omega) dX1_takeAt_16 (by decide) (fun c_1 => ?_) (fun c_1 => ?_)
      · have _h := c_1
        refine lv_aload_n hx hb dX1_takeAt_39 rfl (lv_at hl 2 rfl) ?_
        refine lv_aload_n hx hb dX1_takeAt_40 rfl (lv_at hl 2 rfl) ?_
        refine va_get (D := D) (ci := 1) (v := .int (nI n)) (C := RX1) (T := TX1) (N := 3) hx hb hts hi_X1_takeAt_1 hown hK.1 hP 0 rfl rfl 1 (by decide) (hts _ hf_X1_takeAt_15) (fun _ h9 => h9) rfl dX1_takeAt_41 ?_
        refine lv_iconst (v := nI 1) hx hb dX1_takeAt_44 (by decide) ?_
        refine pw_isub hx hb (by omega) dX1_takeAt_45 ?_
        -- c_keepFirst
        refine pw_cVm (As := [.int (nI (n - 1))]) (rest := []) (wc := [(o, .inr (1, [.ref a, .int (nI n), .int (ch)])), (a, .inl (cI, 60, .inl (clsF f j n)))]) (wr := []) ⟨hx, hb, hml, hown, hts⟩ (c_keepFirst l D cI cP cR o a n ch (clsF f j n) (n - 1) (by omega) (by omega)) (cwV 1 hts gX1_takeAt_X1_keepFirst rfl rfl rfl (by decide +kernel) ⟨Nat.le_of_ble_eq_true rfl, Nat.le_of_ble_eq_true rfl⟩) hK hP hD hS hA [0, 1] [] rfl rfl (by decide) (by decide) (by decide) 0 rfl rfl rfl rfl hl.1 rfl (Nat.le_of_ble_eq_true rfl) dX1_takeAt_46 ⟨Nat.zero_le _, Nat.zero_le _⟩ (fun v1 w1 H locs hq hP hD hS => ?_)
        rcases hq with ⟨rfl, rfl⟩
        have hP : va_P D vwCl ([(o, .inr (1, [.ref a, .int (nI (n - 1)), .int (if n - 1 = n then ch else ch + nI 1)])), (a, .inl (cI, 60, .inl (clsF f j n)))]) H := hP
        have hD : va_D A ([(o, .inr (1, [.ref a, .int (nI (n - 1)), .int (if n - 1 = n then ch else ch + nI 1)])), (a, .inl (cI, 60, .inl (clsF f j n)))]) := hD
        rw [if_neg (show ¬ n - 1 = n by omega)] at hP hD
        refine W.eq (g2 := F0 m 49 ls []) rfl ?_
        refine lv_iload_n hx hb dX1_takeAt_49 rfl (lv_at hl 1 rfl) ?_
        exact pw_iret hx hb hr (rfl) hlocks dX1_takeAt_50 hS hP hD (⟨rfl, rfl⟩)
      · exact absurd c_1 (by omega)
    | succ r ih =>
      intro i hr1 hr2 H locs hP hD hS ls hl
      refine lv_iload_n hx hb dX1_takeAt_11 rfl (lv_at hl 0 rfl) ?_
      refine lv_aload_n hx hb dX1_takeAt_12 rfl (lv_at hl 2 rfl) ?_
      refine va_get (D := D) (ci := 1) (v := .int (nI n)) (C := RX1) (T := TX1) (N := 3) hx hb hts hi_X1_takeAt_1 hown hK.1 hP 0 rfl rfl 1 (by decide) (hts _ hf_X1_takeAt_15) (fun _ h9 => h9) rfl dX1_takeAt_13 ?_
      refine pw_icmp_ge (tgt := 39) hx hb (by omega) (by omega) dX1_takeAt_16 (by decide) (fun c_2 => ?_) (fun c_2 => ?_)
      · exact absurd c_2 (by omega)
      · have _h := c_2
        refine lv_aload_n hx hb dX1_takeAt_19 rfl (lv_at hl 2 rfl) ?_
        refine va_get (D := D) (ci := 1) (v := .ref a) (C := RX1) (T := TX1) (N := 3) hx hb hts hi_X1_takeAt_1 hown hK.1 hP 0 rfl rfl 0 (by decide) (hts _ hf_X1_takeAt_9) (fun _ h9 => h9) rfl dX1_takeAt_20 ?_
        refine lv_iload_n hx hb dX1_takeAt_23 rfl (lv_at hl 0 rfl) ?_
        refine lv_iconst (v := nI 1) hx hb dX1_takeAt_24 (by decide) ?_
        refine pw_isub hx hb (by omega) dX1_takeAt_25 ?_
        refine lv_aload_n hx hb dX1_takeAt_26 rfl (lv_at hl 2 rfl) ?_
        refine va_get (D := D) (ci := 1) (v := .ref a) (C := RX1) (T := TX1) (N := 3) hx hb hts hi_X1_takeAt_1 hown hK.1 hP 0 rfl rfl 0 (by decide) (hts _ hf_X1_takeAt_9) (fun _ h9 => h9) rfl dX1_takeAt_27 ?_
        refine lv_iload_n hx hb dX1_takeAt_30 rfl (lv_at hl 0 rfl) ?_
        refine pw_iald hx hb hK.1 hP 1 0 rfl rfl (by decide) (by omega) dX1_takeAt_31 ?_
        refine pw_iast hx hb hK.1 hP hD hS 1 0 rfl rfl (by decide) (by omega) dX1_takeAt_32 (fun H locs hP hD hS => ?_)
        have hP : va_P D vwCl ([(o, .inr (1, [.ref a, .int (nI n), .int (ch)])), (a, .inl (cI, 60, .inl (upd (clsF f j i) (i - 1) ((clsF f j i) i))))]) H := hP
        have hD : va_D A ([(o, .inr (1, [.ref a, .int (nI n), .int (ch)])), (a, .inl (cI, 60, .inl (upd (clsF f j i) (i - 1) ((clsF f j i) i))))]) := hD
        refine lv_iinc (v := nI (i + 1)) (lv' := [(3, .int (nI (i + 1))), (2, .int (f j)), (0, .ref o), (1, .int (nI j))]) hx hb dX1_takeAt_33 hl (k := 0) rfl (pw_inc _ 1) (by decide) rfl (fun ls hl => ?_)
        refine lv_goto (tgt := 11) hx hb dX1_takeAt_36 (by decide) ?_
        rw [clsF_s f j i (by omega)] at hP hD
        exact ih (i + 1) (by omega) (by omega) H locs hP hD hS ls hl
  exact loop (n - (j + 1)) (j + 1) (by omega) (by omega) s.heap [] (by rw [clsF_0 f j _ (by omega)]; exact hP) (by rw [clsF_0 f j _ (by omega)]; exact hD) hS ls hl
theorem hi_X1_placeOf_1 : ∀ w ∈ u_ws RX1 TX1 3, w ∈ wsX1_placeOf := by decide +kernel
theorem hf_X1_placeOf_9 : Cond.fieldLink RX1 9 "Pegrow$Row" "things" "[I" ∈ wsX1_placeOf := by decide +kernel
theorem hf_X1_placeOf_15 : Cond.fieldLink RX1 15 "Pegrow$Row" "length" "I" ∈ wsX1_placeOf := by decide +kernel
set_option maxHeartbeats 4000000 in
set_option maxRecDepth 100000 in
theorem c_placeOf (l : Launch) (D : va_G) (cI cP cR : ClassId) (o a n : Nat) (ch : Int32) (f : Nat → Int32) (nm la : Int32) (hn : n ≤ 60) : pw_Mp l yX1_placeOf wsX1_placeOf ({ frames := 0, cells := 0, slots := 0, locals := 0 } : Room) D cI cP cR [.ref o, .int (nm), .int (la)] ([(o, .inr (1, [.ref a, .int (nI n), .int (ch)])), (a, .inl (cI, 60, .inl (f)))]) (.int (plc f nm la n)) := by
  refine pw_ofp (cc := cX1_placeOf) (maxL := 5) (ret := (some .int)) (own := RX1) (by decide +kernel) rfl rfl (Nat.le_of_ble_eq_true rfl) ?_
  intro p_ e_ s m bel meth cd hE hK hP hD ls hl
  obtain ⟨hx, hb, hr, hml, hown, hts, hlocks⟩ := hE
  have hNW := hK.2
  have hl : lv_has ls 5 [(0, .ref o), (1, .int (nm)), (2, .int (la))] := hl
  refine lv_iconst (v := -1) hx hb dX1_placeOf_0 (by decide) ?_
  refine lv_istore_n (lv' := [(3, .int (-1)), (0, .ref o), (1, .int (nm)), (2, .int (la))]) hx hb dX1_placeOf_1 rfl hl (by decide) rfl (fun ls hl => ?_)
  refine lv_iconst (v := nI 0) hx hb dX1_placeOf_2 (by decide) ?_
  refine lv_istore (lv' := [(4, .int (nI 0)), (3, .int (-1)), (0, .ref o), (1, .int (nm)), (2, .int (la))]) hx hb dX1_placeOf_3 hl (by decide) rfl (fun ls hl => ?_)
  have loop : ∀ (r : Nat), ∀ (i : Nat), i + r = n → ∀ (x3 : Int32), x3 = plc f nm la i → ∀ ls : Array Slot, lv_has ls 5 [(4, .int (nI i)), (3, .int (x3)), (0, .ref o), (1, .int (nm)), (2, .int (la))] → W p_ l e_ ({ frames := 0, cells := 0, slots := 0, locals := 0 } : Room) s m [.ref o, .int (nm), .int (la)].toArray bel meth cd s.heap [] 0 0 (MQ bel (pw_Qp (.int (plc f nm la n))) [.ref o, .int (nm), .int (la)].toArray s 0 0 (fun _ => False)) (F0 m 5 ls []) := by
    intro r
    induction r with
    | zero =>
      intro i hr1 x3 ex3 ls hl
      obtain rfl : n = i := by omega
      refine lv_iload hx hb dX1_placeOf_5 (lv_at hl 0 rfl) ?_
      refine lv_aload_n hx hb dX1_placeOf_7 rfl (lv_at hl 2 rfl) ?_
      refine va_get (D := D) (ci := 1) (v := .int (nI n)) (C := RX1) (T := TX1) (N := 3) hx hb hts hi_X1_placeOf_1 hown hK.1 hP 0 rfl rfl 1 (by decide) (hts _ hf_X1_placeOf_15) (fun _ h9 => h9) rfl dX1_placeOf_8 ?_
      refine pw_icmp_ge (tgt := 46) hx hb (by omega) (by omega) dX1_placeOf_11 (by decide) (fun c_1 => ?_) (fun c_1 => ?_)
      · have _h := c_1
        refine lv_iload_n hx hb dX1_placeOf_46 rfl (lv_at hl 1 rfl) ?_
        exact pw_piret hx hb hr (rfl) hlocks dX1_placeOf_47 (by rw [ex3])
      · exact absurd c_1 (by omega)
    | succ r ih =>
      intro i hr1 x3 ex3 ls hl
      refine lv_iload hx hb dX1_placeOf_5 (lv_at hl 0 rfl) ?_
      refine lv_aload_n hx hb dX1_placeOf_7 rfl (lv_at hl 2 rfl) ?_
      refine va_get (D := D) (ci := 1) (v := .int (nI n)) (C := RX1) (T := TX1) (N := 3) hx hb hts hi_X1_placeOf_1 hown hK.1 hP 0 rfl rfl 1 (by decide) (hts _ hf_X1_placeOf_15) (fun _ h9 => h9) rfl dX1_placeOf_8 ?_
      refine pw_icmp_ge (tgt := 46) hx hb (by omega) (by omega) dX1_placeOf_11 (by decide) (fun c_2 => ?_) (fun c_2 => ?_)
      · exact absurd c_2 (by omega)
      · have _h := c_2
        refine lv_iload_n hx hb dX1_placeOf_14 rfl (lv_at hl 4 rfl) ?_
        refine lv_if_ne (tgt := 23) hx hb dX1_placeOf_15 (by decide) (fun c_3 => ?_) (fun c_3 => ?_)
        · have _h := c_3
          refine lv_aload_n hx hb dX1_placeOf_23 rfl (lv_at hl 2 rfl) ?_
          refine va_get (D := D) (ci := 1) (v := .ref a) (C := RX1) (T := TX1) (N := 3) hx hb hts hi_X1_placeOf_1 hown hK.1 hP 0 rfl rfl 0 (by decide) (hts _ hf_X1_placeOf_9) (fun _ h9 => h9) rfl dX1_placeOf_24 ?_
          refine lv_iload hx hb dX1_placeOf_27 (lv_at hl 0 rfl) ?_
          refine pw_iald hx hb hK.1 hP 1 0 rfl rfl (by decide) (by omega) dX1_placeOf_29 ?_
          refine lv_bipush (v := nI 10) hx hb dX1_placeOf_30 (by decide) ?_
          refine lv_irem hx hb dX1_placeOf_32 (by decide) ?_
          refine lv_iload_n hx hb dX1_placeOf_33 rfl (lv_at hl 3 rfl) ?_
          refine lv_icmp_ne (tgt := 40) hx hb dX1_placeOf_34 (by decide) (fun c_4 => ?_) (fun c_4 => ?_)
          · have _h := c_4
            refine lv_iinc (v := nI (i + 1)) (lv' := [(4, .int (nI (i + 1))), (3, .int (x3)), (0, .ref o), (1, .int (nm)), (2, .int (la))]) hx hb dX1_placeOf_40 hl (k := 0) rfl (pw_inc _ 1) (by decide) rfl (fun ls hl => ?_)
            refine lv_goto (tgt := 5) hx hb dX1_placeOf_43 (by decide) ?_
            refine ih (i + 1) (by omega) _ (show _ = if _ then _ else _ from by rw [if_neg (fun q => c_4 q.1)]; exact ex3) ls (lv_sub hl [0, 1, 2, 3, 4] rfl)
          · have _h := c_4
            refine lv_iload hx hb dX1_placeOf_37 (lv_at hl 0 rfl) ?_
            refine lv_istore_n (lv' := [(3, .int (nI i)), (4, .int (nI i)), (0, .ref o), (1, .int (nm)), (2, .int (la))]) hx hb dX1_placeOf_39 rfl hl (by decide) rfl (fun ls hl => ?_)
            refine lv_iinc (v := nI (i + 1)) (lv' := [(4, .int (nI (i + 1))), (3, .int (nI i)), (0, .ref o), (1, .int (nm)), (2, .int (la))]) hx hb dX1_placeOf_40 hl (k := 1) rfl (pw_inc _ 1) (by decide) rfl (fun ls hl => ?_)
            refine lv_goto (tgt := 5) hx hb dX1_placeOf_43 (by decide) ?_
            refine ih (i + 1) (by omega) _ (show _ = if _ then _ else _ from by rw [if_pos ⟨c_4, Or.inl c_3⟩]) ls (lv_sub hl [0, 1, 2, 3, 4] rfl)
        · have _h := c_3
          refine lv_iload_n hx hb dX1_placeOf_18 rfl (lv_at hl 1 rfl) ?_
          refine lv_iconst (v := -1) hx hb dX1_placeOf_19 (by decide) ?_
          refine lv_icmp_ne (tgt := 46) hx hb dX1_placeOf_20 (by decide) (fun c_5 => ?_) (fun c_5 => ?_)
          · have _h := c_5
            refine lv_iload_n hx hb dX1_placeOf_46 rfl (lv_at hl 1 rfl) ?_
            exact pw_piret hx hb hr (rfl) hlocks dX1_placeOf_47 (congrArg Value.int (by have h := plc_stop c_3 (show ¬ plc f nm la i = -1 from by rw [← ex3]; exact c_5) (r + 1); rw [hr1, ← ex3] at h; exact h))
          · have _h := c_5
            refine lv_aload_n hx hb dX1_placeOf_23 rfl (lv_at hl 2 rfl) ?_
            refine va_get (D := D) (ci := 1) (v := .ref a) (C := RX1) (T := TX1) (N := 3) hx hb hts hi_X1_placeOf_1 hown hK.1 hP 0 rfl rfl 0 (by decide) (hts _ hf_X1_placeOf_9) (fun _ h9 => h9) rfl dX1_placeOf_24 ?_
            refine lv_iload hx hb dX1_placeOf_27 (lv_at hl 0 rfl) ?_
            refine pw_iald hx hb hK.1 hP 1 0 rfl rfl (by decide) (by omega) dX1_placeOf_29 ?_
            refine lv_bipush (v := nI 10) hx hb dX1_placeOf_30 (by decide) ?_
            refine lv_irem hx hb dX1_placeOf_32 (by decide) ?_
            refine lv_iload_n hx hb dX1_placeOf_33 rfl (lv_at hl 3 rfl) ?_
            refine lv_icmp_ne (tgt := 40) hx hb dX1_placeOf_34 (by decide) (fun c_6 => ?_) (fun c_6 => ?_)
            · have _h := c_6
              refine lv_iinc (v := nI (i + 1)) (lv' := [(4, .int (nI (i + 1))), (3, .int (x3)), (0, .ref o), (1, .int (nm)), (2, .int (la))]) hx hb dX1_placeOf_40 hl (k := 0) rfl (pw_inc _ 1) (by decide) rfl (fun ls hl => ?_)
              refine lv_goto (tgt := 5) hx hb dX1_placeOf_43 (by decide) ?_
              refine ih (i + 1) (by omega) _ (show _ = if _ then _ else _ from by rw [if_neg (fun q => c_6 q.1)]; exact ex3) ls (lv_sub hl [0, 1, 2, 3, 4] rfl)
            · have _h := c_6
              refine lv_iload hx hb dX1_placeOf_37 (lv_at hl 0 rfl) ?_
              refine lv_istore_n (lv' := [(3, .int (nI i)), (4, .int (nI i)), (0, .ref o), (1, .int (nm)), (2, .int (la))]) hx hb dX1_placeOf_39 rfl hl (by decide) rfl (fun ls hl => ?_)
              refine lv_iinc (v := nI (i + 1)) (lv' := [(4, .int (nI (i + 1))), (3, .int (nI i)), (0, .ref o), (1, .int (nm)), (2, .int (la))]) hx hb dX1_placeOf_40 hl (k := 1) rfl (pw_inc _ 1) (by decide) rfl (fun ls hl => ?_)
              refine lv_goto (tgt := 5) hx hb dX1_placeOf_43 (by decide) ?_
              refine ih (i + 1) (by omega) _ (show _ = if _ then _ else _ from by rw [if_pos ⟨c_6, Or.inr (by rw [← ex3]; exact c_5)⟩]) ls (lv_sub hl [0, 1, 2, 3, 4] rfl)
  exact loop n 0 (by omega) _ rfl ls hl
theorem hi_X1_becomeLike_1 : ∀ w ∈ u_ws RX1 TX1 3, w ∈ wsX1_becomeLike := by decide +kernel
theorem hf_X1_becomeLike_9 : Cond.fieldLink RX1 9 "Pegrow$Row" "things" "[I" ∈ wsX1_becomeLike := by decide +kernel
theorem hf_X1_becomeLike_15 : Cond.fieldLink RX1 15 "Pegrow$Row" "length" "I" ∈ wsX1_becomeLike := by decide +kernel
set_option maxHeartbeats 4000000 in
set_option maxRecDepth 100000 in
theorem c_becomeLike (l : Launch) (D : va_G) (cI cP cR : ClassId) (o a n : Nat) (ch : Int32) (f : Nat → Int32) (o2 a2 n2 : Nat) (ch2 : Int32) (g : Nat → Int32) (hn : n2 ≤ 60) : pw_Mm l yX1_becomeLike wsX1_becomeLike ({ frames := 0, cells := 0, slots := 0, locals := 0 } : Room) D cI cP cR [.ref o, .ref o2] ([(o, .inr (1, [.ref a, .int (nI n), .int (ch)])), (a, .inl (cI, 60, .inl (f))), (o2, .inr (1, [.ref a2, .int (nI n2), .int (ch2)])), (a2, .inl (cI, 60, .inl (g)))]) (fun v w => v = none ∧ w = [(o, .inr (1, [.ref a, .int (nI n2), .int (ch)])), (a, .inl (cI, 60, .inl (putF f 0 g n2))), (o2, .inr (1, [.ref a2, .int (nI n2), .int (ch2)])), (a2, .inl (cI, 60, .inl (g)))]) := by
  refine pw_ofm (cc := cX1_becomeLike) (maxL := 3) (ret := none) (own := RX1) (by decide +kernel) rfl rfl (Nat.le_of_ble_eq_true rfl) ?_
  intro p_ e_ s m bel meth cd A hE hK hP hD hA hS ls hl
  obtain ⟨hx, hb, hr, hml, hown, hts, hlocks⟩ := hE
  have hNW := hK.2
  have hl : lv_has ls 3 [(0, .ref o), (1, .ref o2)] := hl
  refine lv_iconst (v := nI 0) hx hb dX1_becomeLike_0 (by decide) ?_
  refine lv_istore_n (lv' := [(2, .int (nI 0)), (0, .ref o), (1, .ref o2)]) hx hb dX1_becomeLike_1 rfl hl (by decide) rfl (fun ls hl => ?_)
  have loop : ∀ (r : Nat), ∀ (i : Nat), i + r = n2 → ∀ (H : Heap) (locs : List Loc), va_P D vwCl ([(o, .inr (1, [.ref a, .int (nI n), .int (ch)])), (a, .inl (cI, 60, .inl (putF f 0 g i))), (o2, .inr (1, [.ref a2, .int (nI n2), .int (ch2)])), (a2, .inl (cI, 60, .inl (g)))]) H → va_D A ([(o, .inr (1, [.ref a, .int (nI n), .int (ch)])), (a, .inl (cI, 60, .inl (putF f 0 g i))), (o2, .inr (1, [.ref a2, .int (nI n2), .int (ch2)])), (a2, .inl (cI, 60, .inl (g)))]) → va_S A s.heap H locs → ∀ ls : Array Slot, lv_has ls 3 [(2, .int (nI i)), (0, .ref o), (1, .ref o2)] → W p_ l e_ ({ frames := 0, cells := 0, slots := 0, locals := 0 } : Room) s m [.ref o, .ref o2].toArray bel meth cd H locs 0 0 (MQ bel (pw_Qm (fun v w => v = none ∧ w = [(o, .inr (1, [.ref a, .int (nI n2), .int (ch)])), (a, .inl (cI, 60, .inl (putF f 0 g n2))), (o2, .inr (1, [.ref a2, .int (nI n2), .int (ch2)])), (a2, .inl (cI, 60, .inl (g)))]) D A) [.ref o, .ref o2].toArray s 0 0 A) (F0 m 2 ls []) := by
    intro r
    induction r with
    | zero =>
      intro i hr1 H locs hP hD hS ls hl
      obtain rfl : n2 = i := by omega
      refine lv_iload_n hx hb dX1_becomeLike_2 rfl (lv_at hl 0 rfl) ?_
      refine lv_aload_n hx hb dX1_becomeLike_3 rfl (lv_at hl 2 rfl) ?_
      refine va_get (D := D) (ci := 1) (v := .int (nI n2)) (C := RX1) (T := TX1) (N := 3) hx hb hts hi_X1_becomeLike_1 hown hK.1 hP 2 rfl rfl 1 (by decide) (hts _ hf_X1_becomeLike_15) (fun _ h9 => h9) rfl dX1_becomeLike_4 ?_
      refine pw_icmp_ge (tgt := 28) hx hb (by omega) (by omega) dX1_becomeLike_7 (by decide) (fun c_1 => ?_) (fun c_1 => ?_)
      · have _h := c_1
        refine lv_aload_n hx hb dX1_becomeLike_28 rfl (lv_at hl 1 rfl) ?_
        refine lv_aload_n hx hb dX1_becomeLike_29 rfl (lv_at hl 2 rfl) ?_
        refine va_get (D := D) (ci := 1) (v := .int (nI n2)) (C := RX1) (T := TX1) (N := 3) hx hb hts hi_X1_becomeLike_1 hown hK.1 hP 2 rfl rfl 1 (by decide) (hts _ hf_X1_becomeLike_15) (fun _ h9 => h9) rfl dX1_becomeLike_30 ?_
        refine va_put (D := D) (ci := 1) (v := .int (nI n2)) (ty := .int) (C := RX1) (T := TX1) (N := 3) hx hb hts hi_X1_becomeLike_1 tyX1 tyX1_ok nmX1 hown hK.1 hP hD hS 0 rfl rfl 1 (by decide) (hts _ hf_X1_becomeLike_15) (fun _ h9 => h9) rfl (by decide +kernel) rfl rfl (Nat.le_of_ble_eq_true rfl) dX1_becomeLike_33 (fun H locs hP hD hS => ?_)
        have hP : va_P D vwCl ([(o, .inr (1, [.ref a, .int (nI n2), .int (ch)])), (a, .inl (cI, 60, .inl (putF f 0 g n2))), (o2, .inr (1, [.ref a2, .int (nI n2), .int (ch2)])), (a2, .inl (cI, 60, .inl (g)))]) H := hP
        have hD : va_D A ([(o, .inr (1, [.ref a, .int (nI n2), .int (ch)])), (a, .inl (cI, 60, .inl (putF f 0 g n2))), (o2, .inr (1, [.ref a2, .int (nI n2), .int (ch2)])), (a2, .inl (cI, 60, .inl (g)))]) := hD
        exact pw_vret hx hb hr hlocks dX1_becomeLike_36 hS hP hD (⟨rfl, rfl⟩)
      · exact absurd c_1 (by omega)
    | succ r ih =>
      intro i hr1 H locs hP hD hS ls hl
      refine lv_iload_n hx hb dX1_becomeLike_2 rfl (lv_at hl 0 rfl) ?_
      refine lv_aload_n hx hb dX1_becomeLike_3 rfl (lv_at hl 2 rfl) ?_
      refine va_get (D := D) (ci := 1) (v := .int (nI n2)) (C := RX1) (T := TX1) (N := 3) hx hb hts hi_X1_becomeLike_1 hown hK.1 hP 2 rfl rfl 1 (by decide) (hts _ hf_X1_becomeLike_15) (fun _ h9 => h9) rfl dX1_becomeLike_4 ?_
      refine pw_icmp_ge (tgt := 28) hx hb (by omega) (by omega) dX1_becomeLike_7 (by decide) (fun c_2 => ?_) (fun c_2 => ?_)
      · exact absurd c_2 (by omega)
      · have _h := c_2
        refine lv_aload_n hx hb dX1_becomeLike_10 rfl (lv_at hl 1 rfl) ?_
        refine va_get (D := D) (ci := 1) (v := .ref a) (C := RX1) (T := TX1) (N := 3) hx hb hts hi_X1_becomeLike_1 hown hK.1 hP 0 rfl rfl 0 (by decide) (hts _ hf_X1_becomeLike_9) (fun _ h9 => h9) rfl dX1_becomeLike_11 ?_
        refine lv_iload_n hx hb dX1_becomeLike_14 rfl (lv_at hl 0 rfl) ?_
        refine lv_aload_n hx hb dX1_becomeLike_15 rfl (lv_at hl 2 rfl) ?_
        refine va_get (D := D) (ci := 1) (v := .ref a2) (C := RX1) (T := TX1) (N := 3) hx hb hts hi_X1_becomeLike_1 hown hK.1 hP 2 rfl rfl 0 (by decide) (hts _ hf_X1_becomeLike_9) (fun _ h9 => h9) rfl dX1_becomeLike_16 ?_
        refine lv_iload_n hx hb dX1_becomeLike_19 rfl (lv_at hl 0 rfl) ?_
        refine pw_iald hx hb hK.1 hP 3 0 rfl rfl (by decide) (by omega) dX1_becomeLike_20 ?_
        refine pw_iast hx hb hK.1 hP hD hS 1 0 rfl rfl (by decide) (by omega) dX1_becomeLike_21 (fun H locs hP hD hS => ?_)
        have hP : va_P D vwCl ([(o, .inr (1, [.ref a, .int (nI n), .int (ch)])), (a, .inl (cI, 60, .inl (upd (putF f 0 g i) i (g i)))), (o2, .inr (1, [.ref a2, .int (nI n2), .int (ch2)])), (a2, .inl (cI, 60, .inl (g)))]) H := hP
        have hD : va_D A ([(o, .inr (1, [.ref a, .int (nI n), .int (ch)])), (a, .inl (cI, 60, .inl (upd (putF f 0 g i) i (g i)))), (o2, .inr (1, [.ref a2, .int (nI n2), .int (ch2)])), (a2, .inl (cI, 60, .inl (g)))]) := hD
        refine lv_iinc (v := nI (i + 1)) (lv' := [(2, .int (nI (i + 1))), (0, .ref o), (1, .ref o2)]) hx hb dX1_becomeLike_22 hl (k := 0) rfl (pw_inc _ 1) (by decide) rfl (fun ls hl => ?_)
        refine lv_goto (tgt := 2) hx hb dX1_becomeLike_25 (by decide) ?_
        rw [putF_s0] at hP hD
        exact ih (i + 1) (by omega) H locs hP hD hS ls hl
  exact loop n2 0 (by omega) s.heap [] (by rw [putF_0]; exact hP) (by rw [putF_0]; exact hD) hS ls hl
theorem hi_X1_turnRound_1 : ∀ w ∈ u_ws RX1 TX1 3, w ∈ wsX1_turnRound := by decide +kernel
theorem hf_X1_turnRound_9 : Cond.fieldLink RX1 9 "Pegrow$Row" "things" "[I" ∈ wsX1_turnRound := by decide +kernel
theorem hf_X1_turnRound_15 : Cond.fieldLink RX1 15 "Pegrow$Row" "length" "I" ∈ wsX1_turnRound := by decide +kernel
set_option maxHeartbeats 4000000 in
set_option maxRecDepth 100000 in
theorem c_turnRound (l : Launch) (D : va_G) (cI cP cR : ClassId) (o a n : Nat) (ch : Int32) (f : Nat → Int32) (hn : n ≤ 60) : pw_Mm l yX1_turnRound wsX1_turnRound ({ frames := 1, cells := 0, slots := 0, locals := 23 } : Room) D cI cP cR [.ref o] ([(o, .inr (1, [.ref a, .int (nI n), .int (ch)])), (a, .inl (cI, 60, .inl (f)))]) (fun v w => v = none ∧ w = [(o, .inr (1, [.ref a, .int (nI n), .int (ch)])), (a, .inl (cI, 60, .inl (turF f n)))]) := by
  refine pw_ofm (cc := cX1_turnRound) (maxL := 2) (ret := none) (own := RX1) (by decide +kernel) rfl rfl (Nat.le_of_ble_eq_true rfl) ?_
  intro p_ e_ s m bel meth cd A hE hK hP hD hA hS ls hl
  obtain ⟨hx, hb, hr, hml, hown, hts, hlocks⟩ := hE
  have hNW := hK.2
  have hl : lv_has ls 2 [(0, .ref o)] := hl
  refine lv_iconst (v := nI 0) hx hb dX1_turnRound_0 (by decide) ?_
  refine lv_istore_n (lv' := [(1, .int (nI 0)), (0, .ref o)]) hx hb dX1_turnRound_1 rfl hl (by decide) rfl (fun ls hl => ?_)
  have loop : ∀ (r : Nat), ∀ (i : Nat), i + r = n / 2 → ∀ (H : Heap) (locs : List Loc), va_P D vwCl ([(o, .inr (1, [.ref a, .int (nI n), .int (ch)])), (a, .inl (cI, 60, .inl (turI f n i)))]) H → va_D A ([(o, .inr (1, [.ref a, .int (nI n), .int (ch)])), (a, .inl (cI, 60, .inl (turI f n i)))]) → va_S A s.heap H locs → ∀ ls : Array Slot, lv_has ls 2 [(1, .int (nI i)), (0, .ref o)] → W p_ l e_ ({ frames := 1, cells := 0, slots := 0, locals := 23 } : Room) s m [.ref o].toArray bel meth cd H locs 0 0 (MQ bel (pw_Qm (fun v w => v = none ∧ w = [(o, .inr (1, [.ref a, .int (nI n), .int (ch)])), (a, .inl (cI, 60, .inl (turF f n)))]) D A) [.ref o].toArray s 0 0 A) (F0 m 2 ls []) := by
    intro r
    induction r with
    | zero =>
      intro i hr1 H locs hP hD hS ls hl
      obtain rfl : i = n / 2 := by omega
      rw [turI_e] at hP hD
      refine lv_iload_n hx hb dX1_turnRound_2 rfl (lv_at hl 0 rfl) ?_
      refine lv_aload_n hx hb dX1_turnRound_3 rfl (lv_at hl 1 rfl) ?_
      refine va_get (D := D) (ci := 1) (v := .int (nI n)) (C := RX1) (T := TX1) (N := 3) hx hb hts hi_X1_turnRound_1 hown hK.1 hP 0 rfl rfl 1 (by decide) (hts _ hf_X1_turnRound_15) (fun _ h9 => h9) rfl dX1_turnRound_4 ?_
      refine lv_iconst (v := nI 2) hx hb dX1_turnRound_7 (by decide) ?_
      refine lv_idiv hx hb dX1_turnRound_8 (by decide) ?_
      refine pw_top (y := nI (n / 2)) (pk_div (by omega) (by decide) (by decide)) ?_
      refine pw_icmp_ge (tgt := 42) hx hb (by omega) (by omega) dX1_turnRound_9 (by decide) (fun c_1 => ?_) (fun c_1 => ?_)
      · have _h := c_1
        exact pw_vret hx hb hr hlocks dX1_turnRound_42 hS hP hD (⟨rfl, rfl⟩)
      · exact absurd c_1 (by omega)
    | succ r ih =>
      intro i hr1 H locs hP hD hS ls hl
      refine lv_iload_n hx hb dX1_turnRound_2 rfl (lv_at hl 0 rfl) ?_
      refine lv_aload_n hx hb dX1_turnRound_3 rfl (lv_at hl 1 rfl) ?_
      refine va_get (D := D) (ci := 1) (v := .int (nI n)) (C := RX1) (T := TX1) (N := 3) hx hb hts hi_X1_turnRound_1 hown hK.1 hP 0 rfl rfl 1 (by decide) (hts _ hf_X1_turnRound_15) (fun _ h9 => h9) rfl dX1_turnRound_4 ?_
      refine lv_iconst (v := nI 2) hx hb dX1_turnRound_7 (by decide) ?_
      refine lv_idiv hx hb dX1_turnRound_8 (by decide) ?_
      refine pw_top (y := nI (n / 2)) (pk_div (by omega) (by decide) (by decide)) ?_
      refine pw_icmp_ge (tgt := 42) hx hb (by omega) (by omega) dX1_turnRound_9 (by decide) (fun c_2 => ?_) (fun c_2 => ?_)
      · exact absurd c_2 (by omega)
      · have _h := c_2
        refine lv_aload_n hx hb dX1_turnRound_12 rfl (lv_at hl 1 rfl) ?_
        refine va_get (D := D) (ci := 1) (v := .ref a) (C := RX1) (T := TX1) (N := 3) hx hb hts hi_X1_turnRound_1 hown hK.1 hP 0 rfl rfl 0 (by decide) (hts _ hf_X1_turnRound_9) (fun _ h9 => h9) rfl dX1_turnRound_13 ?_
        refine lv_iload_n hx hb dX1_turnRound_16 rfl (lv_at hl 0 rfl) ?_
        refine lv_aload_n hx hb dX1_turnRound_17 rfl (lv_at hl 1 rfl) ?_
        refine lv_aload_n hx hb dX1_turnRound_18 rfl (lv_at hl 1 rfl) ?_
        refine va_get (D := D) (ci := 1) (v := .int (nI n)) (C := RX1) (T := TX1) (N := 3) hx hb hts hi_X1_turnRound_1 hown hK.1 hP 0 rfl rfl 1 (by decide) (hts _ hf_X1_turnRound_15) (fun _ h9 => h9) rfl dX1_turnRound_19 ?_
        refine lv_iconst (v := nI 1) hx hb dX1_turnRound_22 (by decide) ?_
        refine pw_isub hx hb (by omega) dX1_turnRound_23 ?_
        refine lv_iload_n hx hb dX1_turnRound_24 rfl (lv_at hl 0 rfl) ?_
        refine pw_isub hx hb (by omega) dX1_turnRound_25 ?_
        refine lv_aload_n hx hb dX1_turnRound_26 rfl (lv_at hl 1 rfl) ?_
        refine va_get (D := D) (ci := 1) (v := .ref a) (C := RX1) (T := TX1) (N := 3) hx hb hts hi_X1_turnRound_1 hown hK.1 hP 0 rfl rfl 0 (by decide) (hts _ hf_X1_turnRound_9) (fun _ h9 => h9) rfl dX1_turnRound_27 ?_
        refine lv_iload_n hx hb dX1_turnRound_30 rfl (lv_at hl 0 rfl) ?_
        refine pw_iald hx hb hK.1 hP 1 0 rfl rfl (by decide) (by omega) dX1_turnRound_31 ?_
        -- c_layAt
        refine pw_cVm (As := [.int (nI ((n - 1) - i)), .int ((turI f n i) i)]) (rest := [.int (nI i), .ref a]) (wc := [(o, .inr (1, [.ref a, .int (nI n), .int (ch)])), (a, .inl (cI, 60, .inl (turI f n i)))]) (wr := []) ⟨hx, hb, hml, hown, hts⟩ (c_layAt l D cI cP cR o a n ch (turI f n i) (n - 1 - i) (turI f n i i) (by omega)) (cwV 2 hts gX1_turnRound_X1_layAt rfl rfl rfl (by decide +kernel) ⟨Nat.le_of_ble_eq_true rfl, Nat.le_of_ble_eq_true rfl⟩) hK hP hD hS hA [0, 1] [] rfl rfl (by decide) (by decide) (by decide) 0 rfl rfl rfl rfl hl.1 rfl (Nat.le_of_ble_eq_true rfl) dX1_turnRound_32 ⟨Nat.zero_le _, Nat.zero_le _⟩ (fun v1 w1 H locs hq hP hD hS => ?_)
        rcases hq with ⟨rfl, rfl⟩
        have hP : va_P D vwCl ([(o, .inr (1, [.ref a, .int (nI n), .int (ch)])), (a, .inl (cI, 60, .inl (upd (turI f n i) (n - 1 - i) (turI f n i i))))]) H := hP
        have hD : va_D A ([(o, .inr (1, [.ref a, .int (nI n), .int (ch)])), (a, .inl (cI, 60, .inl (upd (turI f n i) (n - 1 - i) (turI f n i i))))]) := hD
        refine W.eq (g2 := F0 m 35 ls [.int (turI f n i (n - 1 - i)), .int (nI i), .ref a]) rfl ?_
        refine pw_iast hx hb hK.1 hP hD hS 1 0 rfl rfl (by decide) (by omega) dX1_turnRound_35 (fun H locs hP hD hS => ?_)
        have hP : va_P D vwCl ([(o, .inr (1, [.ref a, .int (nI n), .int (ch)])), (a, .inl (cI, 60, .inl (upd (upd (turI f n i) (n - 1 - i) (turI f n i i)) i (turI f n i (n - 1 - i)))))]) H := hP
        have hD : va_D A ([(o, .inr (1, [.ref a, .int (nI n), .int (ch)])), (a, .inl (cI, 60, .inl (upd (upd (turI f n i) (n - 1 - i) (turI f n i i)) i (turI f n i (n - 1 - i)))))]) := hD
        refine lv_iinc (v := nI (i + 1)) (lv' := [(1, .int (nI (i + 1))), (0, .ref o)]) hx hb dX1_turnRound_36 hl (k := 0) rfl (pw_inc _ 1) (by decide) rfl (fun ls hl => ?_)
        refine lv_goto (tgt := 2) hx hb dX1_turnRound_39 (by decide) ?_
        rw [turI_s f n i (by omega)] at hP hD
        exact ih (i + 1) (by omega) H locs hP hD hS ls hl
  exact loop (n / 2) 0 (by omega) s.heap [] (by rw [turI_0]; exact hP) (by rw [turI_0]; exact hD) hS ls hl
theorem hmn_1 : Cond.methodLink RX1 34 Lib.Math.min.name ∈ wsX1_weaveIn := by decide +kernel
theorem hmn_2 : Cond.static Lib.Math.min.name ∈ wsX1_weaveIn := by decide +kernel
theorem hmn_3 : Cond.initialized "java/lang/Math" ∈ wsX1_weaveIn := by decide +kernel
theorem hmn_4 : Cond.code Lib.Math.min.name Lib.Math.min.code 2 (some .int) ∈ wsX1_weaveIn := by decide +kernel
theorem hi_X1_weaveIn_1 : ∀ w ∈ u_ws RX1 TX1 3, w ∈ wsX1_weaveIn := by decide +kernel
theorem hf_X1_weaveIn_9 : Cond.fieldLink RX1 9 "Pegrow$Row" "things" "[I" ∈ wsX1_weaveIn := by decide +kernel
theorem hf_X1_weaveIn_15 : Cond.fieldLink RX1 15 "Pegrow$Row" "length" "I" ∈ wsX1_weaveIn := by decide +kernel
set_option maxHeartbeats 4000000 in
set_option maxRecDepth 100000 in
theorem c_weaveIn (l : Launch) (D : va_G) (cI cP cR : ClassId) (o a n : Nat) (ch : Int32) (f : Nat → Int32) (o2 a2 n2 : Nat) (ch2 : Int32) (g : Nat → Int32) (hn : n ≤ 60) (hn2 : n2 ≤ 60) (hk : n + n2 ≤ 60) : pw_Mm l yX1_weaveIn wsX1_weaveIn ({ frames := 1, cells := 0, slots := 0, locals := 23 } : Room) D cI cP cR [.ref o, .ref o2] ([(o, .inr (1, [.ref a, .int (nI n), .int (ch)])), (a, .inl (cI, 60, .inl (f))), (o2, .inr (1, [.ref a2, .int (nI n2), .int (ch2)])), (a2, .inl (cI, 60, .inl (g)))]) (fun v w => v = none ∧ w = [(o, .inr (1, [.ref a, .int (nI (n + n2)), .int (ch + nI 1)])), (a, .inl (cI, 60, .inl (wvF f g n n2))), (o2, .inr (1, [.ref a2, .int (nI n2), .int (ch2)])), (a2, .inl (cI, 60, .inl (g)))]) := by
  refine pw_ofm (cc := cX1_weaveIn) (maxL := 4) (ret := none) (own := RX1) (by decide +kernel) rfl rfl (Nat.le_of_ble_eq_true rfl) ?_
  intro p_ e_ s m bel meth cd A hE hK hP hD hA hS ls hl
  obtain ⟨hx, hb, hr, hml, hown, hts, hlocks⟩ := hE
  have hNW := hK.2
  have hl : lv_has ls 4 [(0, .ref o), (1, .ref o2)] := hl
  refine lv_aload_n hx hb dX1_weaveIn_0 rfl (lv_at hl 0 rfl) ?_
  refine va_get (D := D) (ci := 1) (v := .int (nI n)) (C := RX1) (T := TX1) (N := 3) hx hb hts hi_X1_weaveIn_1 hown hK.1 hP 0 rfl rfl 1 (by decide) (hts _ hf_X1_weaveIn_15) (fun _ h9 => h9) rfl dX1_weaveIn_1 ?_
  refine lv_aload_n hx hb dX1_weaveIn_4 rfl (lv_at hl 1 rfl) ?_
  refine va_get (D := D) (ci := 1) (v := .int (nI n2)) (C := RX1) (T := TX1) (N := 3) hx hb hts hi_X1_weaveIn_1 hown hK.1 hP 2 rfl rfl 1 (by decide) (hts _ hf_X1_weaveIn_15) (fun _ h9 => h9) rfl dX1_weaveIn_5 ?_
  refine va_mmin hx hb (hml.trans hl.1.symm) hown (hts _ hmn_1) (hts _ hmn_2) (hts _ hmn_3) (hts _ hmn_4) (by decide) (by decide) (Nat.zero_le _) (Nat.zero_le _) dX1_weaveIn_8 ?_
  obtain ⟨p, hp⟩ : ∃ p, min n n2 = p := ⟨_, rfl⟩
  refine pw_top (y := nI p) ((pw_min (by omega) (by omega)).trans (by rw [hp])) ?_
  refine lv_istore_n (lv' := [(2, .int (nI p)), (0, .ref o), (1, .ref o2)]) hx hb dX1_weaveIn_11 rfl hl (by decide) rfl (fun ls hl => ?_)
  refine lv_aload_n hx hb dX1_weaveIn_12 rfl (lv_at hl 1 rfl) ?_
  refine lv_iload_n hx hb dX1_weaveIn_13 rfl (lv_at hl 0 rfl) ?_
  refine lv_aload_n hx hb dX1_weaveIn_14 rfl (lv_at hl 2 rfl) ?_
  refine va_get (D := D) (ci := 1) (v := .int (nI n2)) (C := RX1) (T := TX1) (N := 3) hx hb hts hi_X1_weaveIn_1 hown hK.1 hP 2 rfl rfl 1 (by decide) (hts _ hf_X1_weaveIn_15) (fun _ h9 => h9) rfl dX1_weaveIn_15 ?_
  -- c_openAt
  refine pw_cVm (As := [.int (nI p), .int (nI n2)]) (rest := []) (wc := [(o, .inr (1, [.ref a, .int (nI n), .int (ch)])), (a, .inl (cI, 60, .inl (f)))]) (wr := [(o2, .inr (1, [.ref a2, .int (nI n2), .int (ch2)])), (a2, .inl (cI, 60, .inl (g)))]) ⟨hx, hb, hml, hown, hts⟩ (c_openAt l D cI cP cR o a n ch f p n2 (by omega) (by omega) hk) (cwV 2 hts gX1_weaveIn_X1_openAt rfl rfl rfl (by decide +kernel) ⟨Nat.le_of_ble_eq_true rfl, Nat.le_of_ble_eq_true rfl⟩) hK hP hD hS hA [0, 1] [2, 3] rfl rfl (by decide) (by decide) (by decide) 0 rfl rfl rfl rfl hl.1 rfl (Nat.le_of_ble_eq_true rfl) dX1_weaveIn_18 ⟨Nat.zero_le _, Nat.zero_le _⟩ (fun v1 w1 H locs hq hP hD hS => ?_)
  rcases hq with ⟨rfl, rfl⟩
  have hP : va_P D vwCl ([(o2, .inr (1, [.ref a2, .int (nI n2), .int (ch2)])), (a2, .inl (cI, 60, .inl (g))), (o, .inr (1, [.ref a, .int (nI (n + n2)), .int (ch + nI 1)])), (a, .inl (cI, 60, .inl (opn f p n2 n)))]) H := hP
  have hD : va_D A ([(o2, .inr (1, [.ref a2, .int (nI n2), .int (ch2)])), (a2, .inl (cI, 60, .inl (g))), (o, .inr (1, [.ref a, .int (nI (n + n2)), .int (ch + nI 1)])), (a, .inl (cI, 60, .inl (opn f p n2 n)))]) := hD
  refine W.eq (g2 := F0 m 21 ls []) rfl ?_
  refine lv_iload_n hx hb dX1_weaveIn_21 rfl (lv_at hl 0 rfl) ?_
  refine lv_istore_n (lv' := [(3, .int (nI p)), (2, .int (nI p)), (0, .ref o), (1, .ref o2)]) hx hb dX1_weaveIn_22 rfl hl (by decide) rfl (fun ls hl => ?_)
  have loop : ∀ (r : Nat), ∀ (i : Nat), i + r = n2 → p ≤ i → ∀ (H : Heap) (locs : List Loc), va_P D vwCl ([(o2, .inr (1, [.ref a2, .int (nI n2), .int (ch2)])), (a2, .inl (cI, 60, .inl (g))), (o, .inr (1, [.ref a, .int (nI (n + n2)), .int (ch + nI 1)])), (a, .inl (cI, 60, .inl (putG (opn f p n2 n) p g p i)))]) H → va_D A ([(o2, .inr (1, [.ref a2, .int (nI n2), .int (ch2)])), (a2, .inl (cI, 60, .inl (g))), (o, .inr (1, [.ref a, .int (nI (n + n2)), .int (ch + nI 1)])), (a, .inl (cI, 60, .inl (putG (opn f p n2 n) p g p i)))]) → va_S A s.heap H locs → ∀ ls : Array Slot, lv_has ls 4 [(3, .int (nI i)), (2, .int (nI p)), (0, .ref o), (1, .ref o2)] → W p_ l e_ ({ frames := 1, cells := 0, slots := 0, locals := 23 } : Room) s m [.ref o, .ref o2].toArray bel meth cd H locs 0 0 (MQ bel (pw_Qm (fun v w => v = none ∧ w = [(o, .inr (1, [.ref a, .int (nI (n + n2)), .int (ch + nI 1)])), (a, .inl (cI, 60, .inl (wvF f g n n2))), (o2, .inr (1, [.ref a2, .int (nI n2), .int (ch2)])), (a2, .inl (cI, 60, .inl (g)))]) D A) [.ref o, .ref o2].toArray s 0 0 A) (F0 m 23 ls []) := by
    intro r
    induction r with
    | zero =>
      intro i hr1 hr2 H locs hP hD hS ls hl
      obtain rfl : n2 = i := by omega
      refine lv_iload_n hx hb dX1_weaveIn_23 rfl (lv_at hl 0 rfl) ?_
      refine lv_aload_n hx hb dX1_weaveIn_24 rfl (lv_at hl 3 rfl) ?_
      refine va_get (D := D) (ci := 1) (v := .int (nI n2)) (C := RX1) (T := TX1) (N := 3) hx hb hts hi_X1_weaveIn_1 hown hK.1 hP 0 rfl rfl 1 (by decide) (hts _ hf_X1_weaveIn_15) (fun _ h9 => h9) rfl dX1_weaveIn_25 ?_
      refine pw_icmp_ge (tgt := 51) hx hb (by omega) (by omega) dX1_weaveIn_28 (by decide) (fun c_1 => ?_) (fun c_1 => ?_)
      · have _h := c_1
        refine lv_iload_n hx hb dX1_weaveIn_51 rfl (lv_at hl 1 rfl) ?_
        refine lv_iconst (v := nI 1) hx hb dX1_weaveIn_52 (by decide) ?_
        refine lv_isub hx hb dX1_weaveIn_53 ?_
        refine lv_istore_n (lv' := [(3, .int ((nI p) - (nI 1))), (2, .int (nI p)), (0, .ref o), (1, .ref o2)]) hx hb dX1_weaveIn_54 rfl hl (by decide) rfl (fun ls hl => ?_)
        have loop2 : ∀ (k : Nat), k ≤ p → ∀ (x3 : Int32), x3 = nI k - 1 → ∀ (H : Heap) (locs : List Loc), va_P D vwCl ([(o2, .inr (1, [.ref a2, .int (nI n2), .int (ch2)])), (a2, .inl (cI, 60, .inl (g))), (o, .inr (1, [.ref a, .int (nI (n + n2)), .int (ch + nI 1)])), (a, .inl (cI, 60, .inl (w2F (putG (opn f p n2 n) p g p n2) f g p k)))]) H → va_D A ([(o2, .inr (1, [.ref a2, .int (nI n2), .int (ch2)])), (a2, .inl (cI, 60, .inl (g))), (o, .inr (1, [.ref a, .int (nI (n + n2)), .int (ch + nI 1)])), (a, .inl (cI, 60, .inl (w2F (putG (opn f p n2 n) p g p n2) f g p k)))]) → va_S A s.heap H locs → ∀ ls : Array Slot, lv_has ls 4 [(3, .int (x3)), (2, .int (nI p)), (0, .ref o), (1, .ref o2)] → W p_ l e_ ({ frames := 1, cells := 0, slots := 0, locals := 23 } : Room) s m [.ref o, .ref o2].toArray bel meth cd H locs 0 0 (MQ bel (pw_Qm (fun v w => v = none ∧ w = [(o, .inr (1, [.ref a, .int (nI (n + n2)), .int (ch + nI 1)])), (a, .inl (cI, 60, .inl (wvF f g n n2))), (o2, .inr (1, [.ref a2, .int (nI n2), .int (ch2)])), (a2, .inl (cI, 60, .inl (g)))]) D A) [.ref o, .ref o2].toArray s 0 0 A) (F0 m 55 ls []) := by
          intro k
          induction k with
          | zero =>
            intro hr1 x3 ex3 H locs hP hD hS ls hl
            subst ex3
            refine lv_iload_n hx hb dX1_weaveIn_55 rfl (lv_at hl 0 rfl) ?_
            refine lv_if_lt (tgt := 95) hx hb dX1_weaveIn_56 (by decide) (fun c_2 => ?_) (fun c_2 => ?_)
            · have _h := c_2
              have hP := hP.sub (ws' := [(o, .inr (1, [.ref a, .int (nI (n + n2)), .int (ch + nI 1)])), (a, .inl (cI, 60, .inl (w2F (putG (opn f p n2 n) p g p n2) f g p 0))), (o2, .inr (1, [.ref a2, .int (nI n2), .int (ch2)])), (a2, .inl (cI, 60, .inl (g)))]) [2, 3, 0, 1] rfl
              have hD := hD.sub (ws' := [(o, .inr (1, [.ref a, .int (nI (n + n2)), .int (ch + nI 1)])), (a, .inl (cI, 60, .inl (w2F (putG (opn f p n2 n) p g p n2) f g p 0))), (o2, .inr (1, [.ref a2, .int (nI n2), .int (ch2)])), (a2, .inl (cI, 60, .inl (g)))]) [2, 3, 0, 1] (by decide) rfl
              exact pw_vret hx hb hr hlocks dX1_weaveIn_95 hS hP hD (⟨rfl, by subst hp; rfl⟩)
            · exact absurd ((pw_m1neg (by omega)).mpr rfl) c_2
          | succ k ih =>
            intro hr1 x3 ex3 H locs hP hD hS ls hl
            have ex3 : x3 = nI k := by rw [ex3, nI_pred]
            subst ex3
            refine lv_iload_n hx hb dX1_weaveIn_55 rfl (lv_at hl 0 rfl) ?_
            refine pw_if_lt (tgt := 95) hx hb (by omega) dX1_weaveIn_56 (by decide) ?_
            refine lv_aload_n hx hb dX1_weaveIn_59 rfl (lv_at hl 2 rfl) ?_
            refine va_get (D := D) (ci := 1) (v := .ref a) (C := RX1) (T := TX1) (N := 3) hx hb hts hi_X1_weaveIn_1 hown hK.1 hP 2 rfl rfl 0 (by decide) (hts _ hf_X1_weaveIn_9) (fun _ h9 => h9) rfl dX1_weaveIn_60 ?_
            refine lv_iconst (v := nI 2) hx hb dX1_weaveIn_63 (by decide) ?_
            refine lv_iload_n hx hb dX1_weaveIn_64 rfl (lv_at hl 0 rfl) ?_
            refine pw_imul hx hb dX1_weaveIn_65 ?_
            refine lv_iconst (v := nI 1) hx hb dX1_weaveIn_66 (by decide) ?_
            refine pw_iadd hx hb dX1_weaveIn_67 ?_
            refine lv_aload_n hx hb dX1_weaveIn_68 rfl (lv_at hl 3 rfl) ?_
            refine va_get (D := D) (ci := 1) (v := .ref a2) (C := RX1) (T := TX1) (N := 3) hx hb hts hi_X1_weaveIn_1 hown hK.1 hP 0 rfl rfl 0 (by decide) (hts _ hf_X1_weaveIn_9) (fun _ h9 => h9) rfl dX1_weaveIn_69 ?_
            refine lv_iload_n hx hb dX1_weaveIn_72 rfl (lv_at hl 0 rfl) ?_
            refine pw_iald hx hb hK.1 hP 1 0 rfl rfl (by decide) (by omega) dX1_weaveIn_73 ?_
            refine pw_iast hx hb hK.1 hP hD hS 3 0 rfl rfl (by decide) (by omega) dX1_weaveIn_74 (fun H locs hP hD hS => ?_)
            have hP : va_P D vwCl ([(o2, .inr (1, [.ref a2, .int (nI n2), .int (ch2)])), (a2, .inl (cI, 60, .inl (g))), (o, .inr (1, [.ref a, .int (nI (n + n2)), .int (ch + nI 1)])), (a, .inl (cI, 60, .inl (upd (w2F (putG (opn f p n2 n) p g p n2) f g p (k + 1)) ((2 * k) + 1) (g k))))]) H := hP
            have hD : va_D A ([(o2, .inr (1, [.ref a2, .int (nI n2), .int (ch2)])), (a2, .inl (cI, 60, .inl (g))), (o, .inr (1, [.ref a, .int (nI (n + n2)), .int (ch + nI 1)])), (a, .inl (cI, 60, .inl (upd (w2F (putG (opn f p n2 n) p g p n2) f g p (k + 1)) ((2 * k) + 1) (g k))))]) := hD
            refine lv_aload_n hx hb dX1_weaveIn_75 rfl (lv_at hl 2 rfl) ?_
            refine va_get (D := D) (ci := 1) (v := .ref a) (C := RX1) (T := TX1) (N := 3) hx hb hts hi_X1_weaveIn_1 hown hK.1 hP 2 rfl rfl 0 (by decide) (hts _ hf_X1_weaveIn_9) (fun _ h9 => h9) rfl dX1_weaveIn_76 ?_
            refine lv_iconst (v := nI 2) hx hb dX1_weaveIn_79 (by decide) ?_
            refine lv_iload_n hx hb dX1_weaveIn_80 rfl (lv_at hl 0 rfl) ?_
            refine pw_imul hx hb dX1_weaveIn_81 ?_
            refine lv_aload_n hx hb dX1_weaveIn_82 rfl (lv_at hl 2 rfl) ?_
            refine va_get (D := D) (ci := 1) (v := .ref a) (C := RX1) (T := TX1) (N := 3) hx hb hts hi_X1_weaveIn_1 hown hK.1 hP 2 rfl rfl 0 (by decide) (hts _ hf_X1_weaveIn_9) (fun _ h9 => h9) rfl dX1_weaveIn_83 ?_
            refine lv_iload_n hx hb dX1_weaveIn_86 rfl (lv_at hl 0 rfl) ?_
            refine pw_iald hx hb hK.1 hP 3 0 rfl rfl (by decide) (by omega) dX1_weaveIn_87 ?_
            refine pw_iast hx hb hK.1 hP hD hS 3 0 rfl rfl (by decide) (by omega) dX1_weaveIn_88 (fun H locs hP hD hS => ?_)
            have hP : va_P D vwCl ([(o2, .inr (1, [.ref a2, .int (nI n2), .int (ch2)])), (a2, .inl (cI, 60, .inl (g))), (o, .inr (1, [.ref a, .int (nI (n + n2)), .int (ch + nI 1)])), (a, .inl (cI, 60, .inl (upd (upd (w2F (putG (opn f p n2 n) p g p n2) f g p (k + 1)) ((2 * k) + 1) (g k)) (2 * k) ((upd (w2F (putG (opn f p n2 n) p g p n2) f g p (k + 1)) ((2 * k) + 1) (g k)) k))))]) H := hP
            have hD : va_D A ([(o2, .inr (1, [.ref a2, .int (nI n2), .int (ch2)])), (a2, .inl (cI, 60, .inl (g))), (o, .inr (1, [.ref a, .int (nI (n + n2)), .int (ch + nI 1)])), (a, .inl (cI, 60, .inl (upd (upd (w2F (putG (opn f p n2 n) p g p n2) f g p (k + 1)) ((2 * k) + 1) (g k)) (2 * k) ((upd (w2F (putG (opn f p n2 n) p g p n2) f g p (k + 1)) ((2 * k) + 1) (g k)) k))))]) := hD
            refine lv_iinc (v := nI k + Int32.ofInt (-1)) (lv' := [(3, .int (nI k + Int32.ofInt (-1))), (2, .int (nI p)), (0, .ref o), (1, .ref o2)]) hx hb dX1_weaveIn_89 hl (k := 0) rfl (rfl) (by decide) rfl (fun ls hl => ?_)
            refine lv_goto (tgt := 55) hx hb dX1_weaveIn_92 (by decide) ?_
            rw [w2F_s _ f g p k (by omega) (by unfold putG opn; rw [if_neg (by omega), if_neg (by omega)])] at hP hD
            exact ih (by omega) _ (pw_dec _) H locs hP hD hS ls hl
        exact loop2 p (Nat.le_refl p) _ (by rw [pw_n1]) H _ (by rw [w2F_e]; exact hP) (by rw [w2F_e]; exact hD) hS ls hl
      · exact absurd c_1 (by omega)
    | succ r ih =>
      intro i hr1 hr2 H locs hP hD hS ls hl
      refine lv_iload_n hx hb dX1_weaveIn_23 rfl (lv_at hl 0 rfl) ?_
      refine lv_aload_n hx hb dX1_weaveIn_24 rfl (lv_at hl 3 rfl) ?_
      refine va_get (D := D) (ci := 1) (v := .int (nI n2)) (C := RX1) (T := TX1) (N := 3) hx hb hts hi_X1_weaveIn_1 hown hK.1 hP 0 rfl rfl 1 (by decide) (hts _ hf_X1_weaveIn_15) (fun _ h9 => h9) rfl dX1_weaveIn_25 ?_
      refine pw_icmp_ge (tgt := 51) hx hb (by omega) (by omega) dX1_weaveIn_28 (by decide) (fun c_3 => ?_) (fun c_3 => ?_)
      · exact absurd c_3 (by omega)
      · have _h := c_3
        refine lv_aload_n hx hb dX1_weaveIn_31 rfl (lv_at hl 2 rfl) ?_
        refine va_get (D := D) (ci := 1) (v := .ref a) (C := RX1) (T := TX1) (N := 3) hx hb hts hi_X1_weaveIn_1 hown hK.1 hP 2 rfl rfl 0 (by decide) (hts _ hf_X1_weaveIn_9) (fun _ h9 => h9) rfl dX1_weaveIn_32 ?_
        refine lv_iload_n hx hb dX1_weaveIn_35 rfl (lv_at hl 1 rfl) ?_
        refine lv_iload_n hx hb dX1_weaveIn_36 rfl (lv_at hl 0 rfl) ?_
        refine pw_iadd hx hb dX1_weaveIn_37 ?_
        refine lv_aload_n hx hb dX1_weaveIn_38 rfl (lv_at hl 3 rfl) ?_
        refine va_get (D := D) (ci := 1) (v := .ref a2) (C := RX1) (T := TX1) (N := 3) hx hb hts hi_X1_weaveIn_1 hown hK.1 hP 0 rfl rfl 0 (by decide) (hts _ hf_X1_weaveIn_9) (fun _ h9 => h9) rfl dX1_weaveIn_39 ?_
        refine lv_iload_n hx hb dX1_weaveIn_42 rfl (lv_at hl 0 rfl) ?_
        refine pw_iald hx hb hK.1 hP 1 0 rfl rfl (by decide) (by omega) dX1_weaveIn_43 ?_
        refine pw_iast hx hb hK.1 hP hD hS 3 0 rfl rfl (by decide) (by omega) dX1_weaveIn_44 (fun H locs hP hD hS => ?_)
        have hP : va_P D vwCl ([(o2, .inr (1, [.ref a2, .int (nI n2), .int (ch2)])), (a2, .inl (cI, 60, .inl (g))), (o, .inr (1, [.ref a, .int (nI (n + n2)), .int (ch + nI 1)])), (a, .inl (cI, 60, .inl (upd (putG (opn f p n2 n) p g p i) (p + i) (g i))))]) H := hP
        have hD : va_D A ([(o2, .inr (1, [.ref a2, .int (nI n2), .int (ch2)])), (a2, .inl (cI, 60, .inl (g))), (o, .inr (1, [.ref a, .int (nI (n + n2)), .int (ch + nI 1)])), (a, .inl (cI, 60, .inl (upd (putG (opn f p n2 n) p g p i) (p + i) (g i))))]) := hD
        refine lv_iinc (v := nI (i + 1)) (lv' := [(3, .int (nI (i + 1))), (2, .int (nI p)), (0, .ref o), (1, .ref o2)]) hx hb dX1_weaveIn_45 hl (k := 0) rfl (pw_inc _ 1) (by decide) rfl (fun ls hl => ?_)
        refine lv_goto (tgt := 23) hx hb dX1_weaveIn_48 (by decide) ?_
        rw [putG_s _ _ _ _ _ (by omega)] at hP hD
        exact ih (i + 1) (by omega) (by omega) H locs hP hD hS ls hl
  exact loop (n2 - p) p (by omega) (by omega) H _ (by rw [putG_0]; exact hP) (by rw [putG_0]; exact hD) hS ls hl
theorem hi_X1_takeRepeats_1 : ∀ w ∈ u_ws RX1 TX1 3, w ∈ wsX1_takeRepeats := by decide +kernel
theorem hf_X1_takeRepeats_9 : Cond.fieldLink RX1 9 "Pegrow$Row" "things" "[I" ∈ wsX1_takeRepeats := by decide +kernel
theorem hf_X1_takeRepeats_15 : Cond.fieldLink RX1 15 "Pegrow$Row" "length" "I" ∈ wsX1_takeRepeats := by decide +kernel
set_option maxHeartbeats 4000000 in
set_option maxRecDepth 100000 in
theorem c_takeRepeats (l : Launch) (D : va_G) (cI cP cR : ClassId) (o a n : Nat) (ch : Int32) (f : Nat → Int32) (hn : n ≤ 60) : pw_Mm l yX1_takeRepeats wsX1_takeRepeats ({ frames := 1, cells := 0, slots := 0, locals := 21 } : Room) D cI cP cR [.ref o] ([(o, .inr (1, [.ref a, .int (nI n), .int (ch)])), (a, .inl (cI, 60, .inl (f)))]) (fun v w => v = some (.int (nI (n - (prF f n).1))) ∧ w = [(o, .inr (1, [.ref a, .int (nI ((prF f n).1)), .int (if (prF f n).1 = n then ch else ch + nI 1)])), (a, .inl (cI, 60, .inl ((prF f n).2.2)))]) := by
  refine pw_ofm (cc := cX1_takeRepeats) (maxL := 6) (ret := (some .int)) (own := RX1) (by decide +kernel) rfl rfl (Nat.le_of_ble_eq_true rfl) ?_
  intro p_ e_ s m bel meth cd A hE hK hP hD hA hS ls hl
  obtain ⟨hx, hb, hr, hml, hown, hts, hlocks⟩ := hE
  have hNW := hK.2
  have hl : lv_has ls 6 [(0, .ref o)] := hl
  refine lv_aload_n hx hb dX1_takeRepeats_0 rfl (lv_at hl 0 rfl) ?_
  refine va_get (D := D) (ci := 1) (v := .int (nI n)) (C := RX1) (T := TX1) (N := 3) hx hb hts hi_X1_takeRepeats_1 hown hK.1 hP 0 rfl rfl 1 (by decide) (hts _ hf_X1_takeRepeats_15) (fun _ h9 => h9) rfl dX1_takeRepeats_1 ?_
  refine lv_istore_n (lv' := [(1, .int (nI n)), (0, .ref o)]) hx hb dX1_takeRepeats_4 rfl hl (by decide) rfl (fun ls hl => ?_)
  refine lv_iconst (v := nI 0) hx hb dX1_takeRepeats_5 (by decide) ?_
  refine lv_istore_n (lv' := [(2, .int (nI 0)), (1, .int (nI n)), (0, .ref o)]) hx hb dX1_takeRepeats_6 rfl hl (by decide) rfl (fun ls hl => ?_)
  refine lv_iconst (v := nI 0) hx hb dX1_takeRepeats_7 (by decide) ?_
  refine lv_istore_n (lv' := [(3, .int (nI 0)), (2, .int (nI 0)), (1, .int (nI n)), (0, .ref o)]) hx hb dX1_takeRepeats_8 rfl hl (by decide) rfl (fun ls hl => ?_)
  refine lv_iconst (v := nI 0) hx hb dX1_takeRepeats_9 (by decide) ?_
  refine lv_istore (lv' := [(4, .int (nI 0)), (3, .int (nI 0)), (2, .int (nI 0)), (1, .int (nI n)), (0, .ref o)]) hx hb dX1_takeRepeats_10 hl (by decide) rfl (fun ls hl => ?_)
  have loop : ∀ (r : Nat), ∀ (i : Nat), i + r = n → ∀ (kp : Nat) (ms : Int32) (F : Nat → Int32), prF f i = (kp, ms, F) → ∀ (H : Heap) (locs : List Loc), va_P D vwCl ([(o, .inr (1, [.ref a, .int (nI n), .int (ch)])), (a, .inl (cI, 60, .inl (F)))]) H → va_D A ([(o, .inr (1, [.ref a, .int (nI n), .int (ch)])), (a, .inl (cI, 60, .inl (F)))]) → va_S A s.heap H locs → ∀ ls : Array Slot, lv_has ls 6 [(4, .int (nI i)), (3, .int (ms)), (2, .int (nI kp)), (1, .int (nI n)), (0, .ref o)] → W p_ l e_ ({ frames := 1, cells := 0, slots := 0, locals := 21 } : Room) s m [.ref o].toArray bel meth cd H locs 0 0 (MQ bel (pw_Qm (fun v w => v = some (.int (nI (n - (prF f n).1))) ∧ w = [(o, .inr (1, [.ref a, .int (nI ((prF f n).1)), .int (if (prF f n).1 = n then ch else ch + nI 1)])), (a, .inl (cI, 60, .inl ((prF f n).2.2)))]) D A) [.ref o].toArray s 0 0 A) (F0 m 12 ls []) := by
    intro r
    induction r with
    | zero =>
      intro i hr1 kp ms F hpr H locs hP hD hS ls hl
      obtain rfl : n = i := by omega
      have hkp : kp ≤ n := by have h := (prF_le f n).1; rw [hpr] at h; exact h
      refine lv_iload hx hb dX1_takeRepeats_12 (lv_at hl 0 rfl) ?_
      refine lv_iload_n hx hb dX1_takeRepeats_14 rfl (lv_at hl 3 rfl) ?_
      refine pw_icmp_ge (tgt := 66) hx hb (by omega) (by omega) dX1_takeRepeats_15 (by decide) (fun c_1 => ?_) (fun c_1 => ?_)
      · have _h := c_1
        refine lv_aload_n hx hb dX1_takeRepeats_66 rfl (lv_at hl 4 rfl) ?_
        refine lv_iload_n hx hb dX1_takeRepeats_67 rfl (lv_at hl 2 rfl) ?_
        -- c_keepFirst
        refine pw_cVm (As := [.int (nI kp)]) (rest := []) (wc := [(o, .inr (1, [.ref a, .int (nI n), .int (ch)])), (a, .inl (cI, 60, .inl (F)))]) (wr := []) ⟨hx, hb, hml, hown, hts⟩ (c_keepFirst l D cI cP cR o a n ch F kp (by omega) (by omega)) (cwV 1 hts gX1_takeRepeats_X1_keepFirst rfl rfl rfl (by decide +kernel) ⟨Nat.le_of_ble_eq_true rfl, Nat.le_of_ble_eq_true rfl⟩) hK hP hD hS hA [0, 1] [] rfl rfl (by decide) (by decide) (by decide) 0 rfl rfl rfl rfl hl.1 rfl (Nat.le_of_ble_eq_true rfl) dX1_takeRepeats_68 ⟨Nat.zero_le _, Nat.zero_le _⟩ (fun v1 w1 H locs hq hP hD hS => ?_)
        rcases hq with ⟨rfl, rfl⟩
        have hP : va_P D vwCl ([(o, .inr (1, [.ref a, .int (nI kp), .int (if kp = n then ch else ch + nI 1)])), (a, .inl (cI, 60, .inl (F)))]) H := hP
        have hD : va_D A ([(o, .inr (1, [.ref a, .int (nI kp), .int (if kp = n then ch else ch + nI 1)])), (a, .inl (cI, 60, .inl (F)))]) := hD
        refine W.eq (g2 := F0 m 71 ls []) rfl ?_
        refine lv_iload_n hx hb dX1_takeRepeats_71 rfl (lv_at hl 3 rfl) ?_
        refine lv_iload_n hx hb dX1_takeRepeats_72 rfl (lv_at hl 2 rfl) ?_
        refine pw_isub hx hb (by omega) dX1_takeRepeats_73 ?_
        exact pw_iret hx hb hr (rfl) hlocks dX1_takeRepeats_74 hS hP hD (⟨by rw [hpr], by rw [hpr]⟩)
      · exact absurd c_1 (by omega)
    | succ r ih =>
      intro i hr1 kp ms F hpr H locs hP hD hS ls hl
      have hkp : kp ≤ i := by have h := (prF_le f i).1; rw [hpr] at h; exact h
      have eF : F i = f i := by have h := (prF_le f i).2 i (Nat.le_refl i); rw [hpr] at h; exact h
      refine lv_iload hx hb dX1_takeRepeats_12 (lv_at hl 0 rfl) ?_
      refine lv_iload_n hx hb dX1_takeRepeats_14 rfl (lv_at hl 3 rfl) ?_
      refine pw_icmp_ge (tgt := 66) hx hb (by omega) (by omega) dX1_takeRepeats_15 (by decide) (fun c_2 => ?_) (fun c_2 => ?_)
      · exact absurd c_2 (by omega)
      · have _h := c_2
        refine lv_iconst (v := nI 1) hx hb dX1_takeRepeats_18 (by decide) ?_
        refine lv_aload_n hx hb dX1_takeRepeats_19 rfl (lv_at hl 4 rfl) ?_
        refine va_get (D := D) (ci := 1) (v := .ref a) (C := RX1) (T := TX1) (N := 3) hx hb hts hi_X1_takeRepeats_1 hown hK.1 hP 0 rfl rfl 0 (by decide) (hts _ hf_X1_takeRepeats_9) (fun _ h9 => h9) rfl dX1_takeRepeats_20 ?_
        refine lv_iload hx hb dX1_takeRepeats_23 (lv_at hl 0 rfl) ?_
        refine pw_iald hx hb hK.1 hP 1 0 rfl rfl (by decide) (by omega) dX1_takeRepeats_25 ?_
        refine lv_bipush (v := nI 10) hx hb dX1_takeRepeats_26 (by decide) ?_
        refine lv_irem hx hb dX1_takeRepeats_28 (by decide) ?_
        refine lv_ishl hx hb dX1_takeRepeats_29 ?_
        refine lv_istore (lv' := [(5, .int ((nI 1) <<< (((F i) - (F i) / (nI 10) * (nI 10)) &&& 31))), (4, .int (nI i)), (3, .int (ms)), (2, .int (nI kp)), (1, .int (nI n)), (0, .ref o)]) hx hb dX1_takeRepeats_30 hl (by decide) rfl (fun ls hl => ?_)
        refine lv_iload_n hx hb dX1_takeRepeats_32 rfl (lv_at hl 2 rfl) ?_
        refine lv_iload hx hb dX1_takeRepeats_33 (lv_at hl 0 rfl) ?_
        refine lv_iand hx hb dX1_takeRepeats_35 ?_
        refine lv_if_ne (tgt := 60) hx hb dX1_takeRepeats_36 (by decide) (fun c_3 => ?_) (fun c_3 => ?_)
        · have _h := c_3
          refine lv_iinc (v := nI (i + 1)) (lv' := [(4, .int (nI (i + 1))), (5, .int ((nI 1) <<< (((F i) - (F i) / (nI 10) * (nI 10)) &&& 31))), (3, .int (ms)), (2, .int (nI kp)), (1, .int (nI n)), (0, .ref o)]) hx hb dX1_takeRepeats_60 hl (k := 1) rfl (pw_inc _ 1) (by decide) rfl (fun ls hl => ?_)
          refine lv_goto (tgt := 12) hx hb dX1_takeRepeats_63 (by decide) ?_
          have h := c_3
          rw [eF] at h
          exact ih (i + 1) (by omega) _ _ _ (by show (if ((prF f i).2.1 &&& _) = 0 then _ else _) = _; rw [hpr]; exact if_neg h) H locs hP hD hS ls (lv_sub hl [0, 2, 3, 4, 5] rfl)
        · have _h := c_3
          refine lv_iload_n hx hb dX1_takeRepeats_39 rfl (lv_at hl 2 rfl) ?_
          refine lv_iload hx hb dX1_takeRepeats_40 (lv_at hl 0 rfl) ?_
          refine lv_ior hx hb dX1_takeRepeats_42 ?_
          refine lv_istore_n (lv' := [(3, .int (ms ||| ((nI 1) <<< (((F i) - (F i) / (nI 10) * (nI 10)) &&& 31)))), (5, .int ((nI 1) <<< (((F i) - (F i) / (nI 10) * (nI 10)) &&& 31))), (4, .int (nI i)), (2, .int (nI kp)), (1, .int (nI n)), (0, .ref o)]) hx hb dX1_takeRepeats_43 rfl hl (by decide) rfl (fun ls hl => ?_)
          refine lv_aload_n hx hb dX1_takeRepeats_44 rfl (lv_at hl 5 rfl) ?_
          refine va_get (D := D) (ci := 1) (v := .ref a) (C := RX1) (T := TX1) (N := 3) hx hb hts hi_X1_takeRepeats_1 hown hK.1 hP 0 rfl rfl 0 (by decide) (hts _ hf_X1_takeRepeats_9) (fun _ h9 => h9) rfl dX1_takeRepeats_45 ?_
          refine lv_iload_n hx hb dX1_takeRepeats_48 rfl (lv_at hl 3 rfl) ?_
          refine lv_aload_n hx hb dX1_takeRepeats_49 rfl (lv_at hl 5 rfl) ?_
          refine va_get (D := D) (ci := 1) (v := .ref a) (C := RX1) (T := TX1) (N := 3) hx hb hts hi_X1_takeRepeats_1 hown hK.1 hP 0 rfl rfl 0 (by decide) (hts _ hf_X1_takeRepeats_9) (fun _ h9 => h9) rfl dX1_takeRepeats_50 ?_
          refine lv_iload hx hb dX1_takeRepeats_53 (lv_at hl 2 rfl) ?_
          refine pw_iald hx hb hK.1 hP 1 0 rfl rfl (by decide) (by omega) dX1_takeRepeats_55 ?_
          refine pw_iast hx hb hK.1 hP hD hS 1 0 rfl rfl (by decide) (by omega) dX1_takeRepeats_56 (fun H locs hP hD hS => ?_)
          have hP : va_P D vwCl ([(o, .inr (1, [.ref a, .int (nI n), .int (ch)])), (a, .inl (cI, 60, .inl (upd F kp (F i))))]) H := hP
          have hD : va_D A ([(o, .inr (1, [.ref a, .int (nI n), .int (ch)])), (a, .inl (cI, 60, .inl (upd F kp (F i))))]) := hD
          refine lv_iinc (v := nI (kp + 1)) (lv' := [(2, .int (nI (kp + 1))), (3, .int (ms ||| ((nI 1) <<< (((F i) - (F i) / (nI 10) * (nI 10)) &&& 31)))), (5, .int ((nI 1) <<< (((F i) - (F i) / (nI 10) * (nI 10)) &&& 31))), (4, .int (nI i)), (1, .int (nI n)), (0, .ref o)]) hx hb dX1_takeRepeats_57 hl (k := 3) rfl (pw_inc _ 1) (by decide) rfl (fun ls hl => ?_)
          refine lv_iinc (v := nI (i + 1)) (lv' := [(4, .int (nI (i + 1))), (2, .int (nI (kp + 1))), (3, .int (ms ||| ((nI 1) <<< (((F i) - (F i) / (nI 10) * (nI 10)) &&& 31)))), (5, .int ((nI 1) <<< (((F i) - (F i) / (nI 10) * (nI 10)) &&& 31))), (1, .int (nI n)), (0, .ref o)]) hx hb dX1_takeRepeats_60 hl (k := 3) rfl (pw_inc _ 1) (by decide) rfl (fun ls hl => ?_)
          refine lv_goto (tgt := 12) hx hb dX1_takeRepeats_63 (by decide) ?_
          have h := c_3
          rw [eF] at h
          rw [eF] at hP hD hl
          exact ih (i + 1) (by omega) _ _ _ (by show (if ((prF f i).2.1 &&& _) = 0 then _ else _) = _; rw [hpr]; exact if_pos h) H locs hP hD hS ls (lv_sub hl [0, 2, 1, 4, 5] rfl)
  exact loop n 0 (by omega) 0 (nI 0) f rfl s.heap [] hP hD hS ls (lv_sub hl [0, 1, 2, 3, 4] rfl)
theorem hi_X1_number_1 : ∀ w ∈ u_ws RX1 TX1 3, w ∈ wsX1_number := by decide +kernel
theorem hf_X1_number_9 : Cond.fieldLink RX1 9 "Pegrow$Row" "things" "[I" ∈ wsX1_number := by decide +kernel
theorem hf_X1_number_15 : Cond.fieldLink RX1 15 "Pegrow$Row" "length" "I" ∈ wsX1_number := by decide +kernel
set_option maxHeartbeats 4000000 in
set_option maxRecDepth 100000 in
theorem c_number (l : Launch) (D : va_G) (cI cP cR : ClassId) (o a n : Nat) (ch : Int32) (f : Nat → Int32) (hn : n ≤ 60) : pw_Mp l yX1_number wsX1_number ({ frames := 0, cells := 0, slots := 0, locals := 0 } : Room) D cI cP cR [.ref o] ([(o, .inr (1, [.ref a, .int (nI n), .int (ch)])), (a, .inl (cI, 60, .inl (f)))]) (.int (smF f n)) := by
  refine pw_ofp (cc := cX1_number) (maxL := 3) (ret := (some .int)) (own := RX1) (by decide +kernel) rfl rfl (Nat.le_of_ble_eq_true rfl) ?_
  intro p_ e_ s m bel meth cd hE hK hP hD ls hl
  obtain ⟨hx, hb, hr, hml, hown, hts, hlocks⟩ := hE
  have hNW := hK.2
  have hl : lv_has ls 3 [(0, .ref o)] := hl
  refine lv_bipush (v := nI 7) hx hb dX1_number_0 (by decide) ?_
  refine lv_istore_n (lv' := [(1, .int (nI 7)), (0, .ref o)]) hx hb dX1_number_2 rfl hl (by decide) rfl (fun ls hl => ?_)
  refine lv_iconst (v := nI 0) hx hb dX1_number_3 (by decide) ?_
  refine lv_istore_n (lv' := [(2, .int (nI 0)), (1, .int (nI 7)), (0, .ref o)]) hx hb dX1_number_4 rfl hl (by decide) rfl (fun ls hl => ?_)
  have loop : ∀ (r : Nat), ∀ (i : Nat), i + r = n → ∀ (x1 : Int32), x1 = smF f i → ∀ ls : Array Slot, lv_has ls 3 [(2, .int (nI i)), (1, .int (x1)), (0, .ref o)] → W p_ l e_ ({ frames := 0, cells := 0, slots := 0, locals := 0 } : Room) s m [.ref o].toArray bel meth cd s.heap [] 0 0 (MQ bel (pw_Qp (.int (smF f n))) [.ref o].toArray s 0 0 (fun _ => False)) (F0 m 5 ls []) := by
    intro r
    induction r with
    | zero =>
      intro i hr1 x1 ex1 ls hl
      obtain rfl : n = i := by omega
      refine lv_iload_n hx hb dX1_number_5 rfl (lv_at hl 0 rfl) ?_
      refine lv_aload_n hx hb dX1_number_6 rfl (lv_at hl 2 rfl) ?_
      refine va_get (D := D) (ci := 1) (v := .int (nI n)) (C := RX1) (T := TX1) (N := 3) hx hb hts hi_X1_number_1 hown hK.1 hP 0 rfl rfl 1 (by decide) (hts _ hf_X1_number_15) (fun _ h9 => h9) rfl dX1_number_7 ?_
      refine pw_icmp_ge (tgt := 34) hx hb (by omega) (by omega) dX1_number_10 (by decide) (fun c_1 => ?_) (fun c_1 => ?_)
      · have _h := c_1
        refine lv_iload_n hx hb dX1_number_34 rfl (lv_at hl 1 rfl) ?_
        exact pw_piret hx hb hr (rfl) hlocks dX1_number_35 (by rw [ex1])
      · exact absurd c_1 (by omega)
    | succ r ih =>
      intro i hr1 x1 ex1 ls hl
      refine lv_iload_n hx hb dX1_number_5 rfl (lv_at hl 0 rfl) ?_
      refine lv_aload_n hx hb dX1_number_6 rfl (lv_at hl 2 rfl) ?_
      refine va_get (D := D) (ci := 1) (v := .int (nI n)) (C := RX1) (T := TX1) (N := 3) hx hb hts hi_X1_number_1 hown hK.1 hP 0 rfl rfl 1 (by decide) (hts _ hf_X1_number_15) (fun _ h9 => h9) rfl dX1_number_7 ?_
      refine pw_icmp_ge (tgt := 34) hx hb (by omega) (by omega) dX1_number_10 (by decide) (fun c_2 => ?_) (fun c_2 => ?_)
      · exact absurd c_2 (by omega)
      · have _h := c_2
        refine lv_bipush (v := nI 31) hx hb dX1_number_13 (by decide) ?_
        refine lv_iload_n hx hb dX1_number_15 rfl (lv_at hl 1 rfl) ?_
        refine lv_imul hx hb dX1_number_16 ?_
        refine lv_aload_n hx hb dX1_number_17 rfl (lv_at hl 2 rfl) ?_
        refine va_get (D := D) (ci := 1) (v := .ref a) (C := RX1) (T := TX1) (N := 3) hx hb hts hi_X1_number_1 hown hK.1 hP 0 rfl rfl 0 (by decide) (hts _ hf_X1_number_9) (fun _ h9 => h9) rfl dX1_number_18 ?_
        refine lv_iload_n hx hb dX1_number_21 rfl (lv_at hl 0 rfl) ?_
        refine pw_iald hx hb hK.1 hP 1 0 rfl rfl (by decide) (by omega) dX1_number_22 ?_
        refine lv_iadd hx hb dX1_number_23 ?_
        refine lv_ldc (v := 1000003) hx hb hown (hts (.constant RX1 39 (1000003)) (by decide +kernel)) dX1_number_24 ?_
        refine lv_irem hx hb dX1_number_26 (by decide) ?_
        refine lv_istore_n (lv' := [(1, .int ((((nI 31) * x1) + (f i)) - (((nI 31) * x1) + (f i)) / 1000003 * 1000003)), (2, .int (nI i)), (0, .ref o)]) hx hb dX1_number_27 rfl hl (by decide) rfl (fun ls hl => ?_)
        refine lv_iinc (v := nI (i + 1)) (lv' := [(2, .int (nI (i + 1))), (1, .int ((((nI 31) * x1) + (f i)) - (((nI 31) * x1) + (f i)) / 1000003 * 1000003)), (0, .ref o)]) hx hb dX1_number_28 hl (k := 1) rfl (pw_inc _ 1) (by decide) rfl (fun ls hl => ?_)
        refine lv_goto (tgt := 5) hx hb dX1_number_31 (by decide) ?_
        exact ih (i + 1) (by omega) _ (by rw [ex1]; rfl) ls (lv_sub hl [0, 1, 2] rfl)
  exact loop n 0 (by omega) _ rfl ls hl
