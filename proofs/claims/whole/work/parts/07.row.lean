theorem pw_inc (a k : Nat) : nI a + Int32.ofInt (k : Int) = nI (a + k) := nI_add a k
theorem pw_m1lt {k p : Nat} (hk : k < 2147483648) (hp : p < 2147483648) : nI k - 1 < nI p ↔ k < p + 1 := by
  rw [Int32.lt_iff_toInt_lt, nI_toInt hp]
  cases k with
  | zero => rw [nI_0]; simp; omega
  | succ k => rw [nI_pred, nI_toInt (by omega)]; omega
theorem hi_X1_hasThingAt_1 : ∀ w ∈ u_ws RX1 TX1 3, w ∈ wsX1_hasThingAt := by decide +kernel
theorem hf_X1_hasThingAt_15 : Cond.fieldLink RX1 15 "Pegrow$Row" "length" "I" ∈ wsX1_hasThingAt := by decide +kernel
set_option maxHeartbeats 4000000 in
set_option maxRecDepth 100000 in
theorem c_hasThingAt (l : Launch) (D : va_G) (cI cP cR : ClassId) (o a n : Nat) (c : Int32) (f : Nat → Int32) (q : Int32) : pw_Mp l yX1_hasThingAt wsX1_hasThingAt ({ frames := 0, cells := 0, slots := 0, locals := 0 } : Room) D cI cP cR [.ref o, .int (q)] ([(o, .inr (1, [.ref a, .int (nI n), .int (c)])), (a, .inl (cI, 60, .inl (f)))]) (.int (if 0 ≤ q ∧ q < nI n then 1 else 0)) := by
  refine pw_ofp (cc := cX1_hasThingAt) (maxL := 2) (ret := (some .boolean)) (own := RX1) (by decide +kernel) rfl rfl (Nat.le_of_ble_eq_true rfl) ?_
  intro p e s m below meth c hE hK hP hD ls hl
  obtain ⟨hx, hb, hr, hml, hown, hts, hlocks⟩ := hE
  have hNW := hK.2
  have hl : lv_has ls 2 [(0, .ref o), (1, .int (q))] := hl
  refine lv_iload_n hx hb dX1_hasThingAt_0 rfl (lv_at hl 1 rfl) ?_
  refine lv_if_lt (tgt := 16) hx hb dX1_hasThingAt_1 (by decide) (fun c_1 => ?_) (fun c_1 => ?_)
  · have _h := c_1
    refine lv_iconst (v := nI 0) hx hb dX1_hasThingAt_16 (by decide) ?_
    exact pw_piret hx hb hr (rfl) hlocks dX1_hasThingAt_17 (by rw [if_neg (by simpa only [Int32.not_lt, Int32.not_le, not_and_or] using by first | exact fun h => absurd h.1 (Int32.not_le.mpr (by assumption)) | exact fun h => absurd h.2 (Int32.not_lt.mpr (by assumption)))]; rfl)
  · have _h := c_1
    refine lv_iload_n hx hb dX1_hasThingAt_4 rfl (lv_at hl 1 rfl) ?_
    refine lv_aload_n hx hb dX1_hasThingAt_5 rfl (lv_at hl 0 rfl) ?_
    refine va_get (D := D) (ci := 1) (v := .int (nI n)) (C := RX1) (T := TX1) (N := 3) hx hb hts hi_X1_hasThingAt_1 hown hK.1 hP 0 rfl rfl 1 (by decide) (hts _ hf_X1_hasThingAt_15) (fun _ h9 => h9) rfl dX1_hasThingAt_6 ?_
    refine lv_icmp_ge (tgt := 16) hx hb dX1_hasThingAt_9 (by decide) (fun c_2 => ?_) (fun c_2 => ?_)
    · have _h := c_2
      refine lv_iconst (v := nI 0) hx hb dX1_hasThingAt_16 (by decide) ?_
      exact pw_piret hx hb hr (rfl) hlocks dX1_hasThingAt_17 (by rw [if_neg (by simpa only [Int32.not_lt, Int32.not_le, not_and_or] using by first | exact fun h => absurd h.1 (Int32.not_le.mpr (by assumption)) | exact fun h => absurd h.2 (Int32.not_lt.mpr (by assumption)))]; rfl)
    · have _h := c_2
      refine lv_iconst (v := nI 1) hx hb dX1_hasThingAt_12 (by decide) ?_
      refine lv_goto (tgt := 17) hx hb dX1_hasThingAt_13 (by decide) ?_
      exact pw_piret hx hb hr (rfl) hlocks dX1_hasThingAt_17 (by rw [if_pos ⟨Int32.not_lt.mp (by assumption), Int32.not_le.mp (by assumption)⟩]; rfl)
def opn (f : Nat → Int32) (q k n : Nat) : Nat → Int32 := fun j => if q + k ≤ j ∧ j < n + k then f (j - k) else f j
theorem hi_X1_openAt_1 : ∀ w ∈ u_ws RX1 TX1 3, w ∈ wsX1_openAt := by decide +kernel
theorem hf_X1_openAt_9 : Cond.fieldLink RX1 9 "Pegrow$Row" "things" "[I" ∈ wsX1_openAt := by decide +kernel
theorem hf_X1_openAt_15 : Cond.fieldLink RX1 15 "Pegrow$Row" "length" "I" ∈ wsX1_openAt := by decide +kernel
theorem hf_X1_openAt_27 : Cond.fieldLink RX1 27 "Pegrow$Row" "changes" "I" ∈ wsX1_openAt := by decide +kernel
set_option maxHeartbeats 4000000 in
set_option maxRecDepth 100000 in
theorem c_openAt (l : Launch) (D : va_G) (cI cP cR : ClassId) (o a n : Nat) (c : Int32) (f : Nat → Int32) (q k : Nat) (hn : n ≤ 60) (hq : q ≤ n) (hk : n + k ≤ 60) : pw_Mm l yX1_openAt wsX1_openAt ({ frames := 0, cells := 0, slots := 0, locals := 0 } : Room) D cI cP cR [.ref o, .int (nI q), .int (nI k)] ([(o, .inr (1, [.ref a, .int (nI n), .int (c)])), (a, .inl (cI, 60, .inl (f)))]) (fun v w => v = none ∧ w = [(o, .inr (1, [.ref a, .int (nI (n + k)), .int (c + nI 1)])), (a, .inl (cI, 60, .inl (opn f q k n)))]) := by
  refine pw_ofm (cc := cX1_openAt) (maxL := 4) (ret := none) (own := RX1) (by decide +kernel) rfl rfl (Nat.le_of_ble_eq_true rfl) ?_
  intro p e s m below meth c A hE hK hP hD hA hS ls hl
  obtain ⟨hx, hb, hr, hml, hown, hts, hlocks⟩ := hE
  have hNW := hK.2
  have hl : lv_has ls 4 [(0, .ref o), (1, .int (nI q)), (2, .int (nI k))] := hl
  refine lv_aload_n hx hb dX1_openAt_0 rfl (lv_at hl 0 rfl) ?_
  refine va_get (D := D) (ci := 1) (v := .int (nI n)) (C := RX1) (T := TX1) (N := 3) hx hb hts hi_X1_openAt_1 hown hK.1 hP 0 rfl rfl 1 (by decide) (hts _ hf_X1_openAt_15) (fun _ h9 => h9) rfl dX1_openAt_1 ?_
  refine lv_iconst (v := nI 1) hx hb dX1_openAt_4 (by decide) ?_
  refine lv_isub hx hb dX1_openAt_5 ?_
  refine lv_istore_n (lv' := [(3, .int ((nI n) - (nI 1))), (0, .ref o), (1, .int (nI q)), (2, .int (nI k))]) hx hb dX1_openAt_6 rfl hl (by decide) rfl (fun ls hl => ?_)
  have loop : ∀ (r : Nat), q + r ≤ n → ∀ (x3 : Int32), x3 = nI (q + r) - 1 → ∀ (H : Heap) (locs : List Loc), va_P D vwCl [(o, .inr (1, [.ref a, .int (nI n), .int (c)])), (a, .inl (cI, 60, .inl (opn f (q + r) k n)))] H → va_D A [(o, .inr (1, [.ref a, .int (nI n), .int (c)])), (a, .inl (cI, 60, .inl (opn f (q + r) k n)))] → va_S A s.heap H locs → ∀ ls : Array Slot, lv_has ls 4 [(3, .int x3), (0, .ref o), (1, .int (nI q)), (2, .int (nI k))] → W p l e ({ frames := 0, cells := 0, slots := 0, locals := 0 } : Room) s m [.ref o, .int (nI q), .int (nI k)].toArray below meth c H locs 0 0 (MQ below (pw_Qm (fun v w => v = none ∧ w = [(o, .inr (1, [.ref a, .int (nI (n + k)), .int (c + nI 1)])), (a, .inl (cI, 60, .inl (opn f q k n)))]) D A) [.ref o, .int (nI q), .int (nI k)].toArray s 0 0 A) (F0 m 7 ls []) := by
    intro r
    induction r with
    | zero =>
      intro hr1 x3 ex3 H locs hP hD hS ls hl
      subst ex3
      refine lv_iload_n hx hb dX1_openAt_7 rfl (lv_at hl 0 rfl) ?_
      refine lv_iload_n hx hb dX1_openAt_8 rfl (lv_at hl 2 rfl) ?_
      refine lv_icmp_lt (tgt := 32) hx hb dX1_openAt_9 (by decide) (fun c_1 => ?_) (fun c_1 => ?_)
      · have _h := c_1
        refine lv_aload_n hx hb dX1_openAt_32 rfl (lv_at hl 1 rfl) ?_
        refine lv_dup hx hb dX1_openAt_33 rfl ?_
        refine va_get (D := D) (ci := 1) (v := .int (nI n)) (C := RX1) (T := TX1) (N := 3) hx hb hts hi_X1_openAt_1 hown hK.1 hP 0 rfl rfl 1 (by decide) (hts _ hf_X1_openAt_15) (fun _ h9 => h9) rfl dX1_openAt_34 ?_
        refine lv_iload_n hx hb dX1_openAt_37 rfl (lv_at hl 3 rfl) ?_
        refine pw_iadd hx hb dX1_openAt_38 ?_
        refine va_put (D := D) (ci := 1) (v := .int (nI (n + k))) (ty := .int) (C := RX1) (T := TX1) (N := 3) hx hb hts hi_X1_openAt_1 tyX1 tyX1_ok nmX1 hown hK.1 hP hD hS 0 rfl rfl 1 (by decide) (hts _ hf_X1_openAt_15) (fun _ h9 => h9) rfl (by decide +kernel) rfl rfl (Nat.le_of_ble_eq_true rfl) dX1_openAt_39 (fun H locs hP hD hS => ?_)
        have hP : va_P D vwCl ([(o, .inr (1, [.ref a, .int (nI (n + k)), .int (c)])), (a, .inl (cI, 60, .inl (opn f (q + 0) k n)))]) H := hP
        have hD : va_D A ([(o, .inr (1, [.ref a, .int (nI (n + k)), .int (c)])), (a, .inl (cI, 60, .inl (opn f (q + 0) k n)))]) := hD
        refine lv_aload_n hx hb dX1_openAt_42 rfl (lv_at hl 1 rfl) ?_
        refine lv_dup hx hb dX1_openAt_43 rfl ?_
        refine va_get (D := D) (ci := 1) (v := .int (c)) (C := RX1) (T := TX1) (N := 3) hx hb hts hi_X1_openAt_1 hown hK.1 hP 0 rfl rfl 2 (by decide) (hts _ hf_X1_openAt_27) (fun _ h9 => h9) rfl dX1_openAt_44 ?_
        refine lv_iconst (v := nI 1) hx hb dX1_openAt_47 (by decide) ?_
        refine lv_iadd hx hb dX1_openAt_48 ?_
        refine va_put (D := D) (ci := 1) (v := .int (c + (nI 1))) (ty := .int) (C := RX1) (T := TX1) (N := 3) hx hb hts hi_X1_openAt_1 tyX1 tyX1_ok nmX1 hown hK.1 hP hD hS 0 rfl rfl 2 (by decide) (hts _ hf_X1_openAt_27) (fun _ h9 => h9) rfl (by decide +kernel) rfl rfl (Nat.le_of_ble_eq_true rfl) dX1_openAt_49 (fun H locs hP hD hS => ?_)
        have hP : va_P D vwCl ([(o, .inr (1, [.ref a, .int (nI (n + k)), .int (c + (nI 1))])), (a, .inl (cI, 60, .inl (opn f (q + 0) k n)))]) H := hP
        have hD : va_D A ([(o, .inr (1, [.ref a, .int (nI (n + k)), .int (c + (nI 1))])), (a, .inl (cI, 60, .inl (opn f (q + 0) k n)))]) := hD
        exact pw_vret hx hb hr hlocks dX1_openAt_52 hS hP hD (⟨rfl, rfl⟩)
      · exact absurd ((pw_m1lt (by omega) (by omega)).mpr (by omega)) c_1
    | succ r ih =>
      intro hr1 x3 ex3 H locs hP hD hS ls hl
      have ex3 : x3 = nI (q + r) := by rw [ex3, ← Nat.add_assoc, nI_pred]
      subst ex3
      refine lv_iload_n hx hb dX1_openAt_7 rfl (lv_at hl 0 rfl) ?_
      refine lv_iload_n hx hb dX1_openAt_8 rfl (lv_at hl 2 rfl) ?_
      refine pw_icmp_lt (tgt := 32) hx hb (by omega) (by omega) dX1_openAt_9 (by decide) (fun c_2 => ?_) (fun c_2 => ?_)
      · exact absurd c_2 (by omega)
      · have _h := c_2
        refine lv_aload_n hx hb dX1_openAt_12 rfl (lv_at hl 1 rfl) ?_
        refine va_get (D := D) (ci := 1) (v := .ref a) (C := RX1) (T := TX1) (N := 3) hx hb hts hi_X1_openAt_1 hown hK.1 hP 0 rfl rfl 0 (by decide) (hts _ hf_X1_openAt_9) (fun _ h9 => h9) rfl dX1_openAt_13 ?_
        refine lv_iload_n hx hb dX1_openAt_16 rfl (lv_at hl 0 rfl) ?_
        refine lv_iload_n hx hb dX1_openAt_17 rfl (lv_at hl 3 rfl) ?_
        refine pw_iadd hx hb dX1_openAt_18 ?_
        refine lv_aload_n hx hb dX1_openAt_19 rfl (lv_at hl 1 rfl) ?_
        refine va_get (D := D) (ci := 1) (v := .ref a) (C := RX1) (T := TX1) (N := 3) hx hb hts hi_X1_openAt_1 hown hK.1 hP 0 rfl rfl 0 (by decide) (hts _ hf_X1_openAt_9) (fun _ h9 => h9) rfl dX1_openAt_20 ?_
        refine lv_iload_n hx hb dX1_openAt_23 rfl (lv_at hl 0 rfl) ?_
        refine pw_iald hx hb hK.1 hP 1 0 rfl rfl (by decide) (by omega) dX1_openAt_24 ?_
        refine pw_iast hx hb hK.1 hP hD hS 1 0 rfl rfl (by decide) (by omega) dX1_openAt_25 (fun H locs hP hD hS => ?_)
        have hP : va_P D vwCl ([(o, .inr (1, [.ref a, .int (nI n), .int (c)])), (a, .inl (cI, 60, .inl (upd (opn f (q + (r + 1)) k n) ((q + r) + k) ((opn f (q + (r + 1)) k n) (q + r)))))]) H := hP
        have hD : va_D A ([(o, .inr (1, [.ref a, .int (nI n), .int (c)])), (a, .inl (cI, 60, .inl (upd (opn f (q + (r + 1)) k n) ((q + r) + k) ((opn f (q + (r + 1)) k n) (q + r)))))]) := hD
        refine lv_iinc (v := nI (q + r) + Int32.ofInt (-1)) (lv' := [(3, .int (nI (q + r) + Int32.ofInt (-1))), (0, .ref o), (1, .int (nI q)), (2, .int (nI k))]) hx hb dX1_openAt_26 hl (k := 0) rfl (rfl) (by decide) rfl (fun ls hl => ?_)
        refine lv_goto (tgt := 7) hx hb dX1_openAt_29 (by decide) ?_
        have ef : upd (opn f (q + (r + 1)) k n) (q + r + k) (opn f (q + (r + 1)) k n (q + r)) = opn f (q + r) k n := by
          funext j
          unfold opn upd
          simp only
          by_cases h1 : j = q + r + k
          · subst h1; rw [if_pos rfl, if_neg (by omega), if_pos (by omega), Nat.add_sub_cancel]
          · rw [if_neg h1]
            by_cases h2 : q + (r + 1) + k ≤ j ∧ j < n + k
            · rw [if_pos h2, if_pos (by omega)]
            · rw [if_neg h2, if_neg (by omega)]
        rw [ef] at hP hD
        exact ih (by omega) _ rfl H locs hP hD hS ls hl
  have e0 : opn f (q + (n - q)) k n = f := by
    funext j
    unfold opn
    rw [if_neg (by omega)]
  exact loop (n - q) (by omega) _ (by rw [show q + (n - q) = n by omega]) s.heap [] (by rw [e0]; exact hP) (by rw [e0]; exact hD) hS ls hl
