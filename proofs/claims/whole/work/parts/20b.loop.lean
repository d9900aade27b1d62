set_option maxHeartbeats 4000000 in
set_option maxRecDepth 100000 in
/-- the law's loop: at its head, with kk calls done, both states are in the relation -/
theorem law_loop (l : Launch) {p : Program} {e : Env} {s : State} {m : MethodId} {below : List Frame} {meth : Method} {c : Code} {b L : Nat} {xs : Nat → Int32} {D : va_G} {cI cP cR : ClassId} {h qr qp : Nat} {ro ao po : Nat → Nat} {x t z rf rwa pl hd ha lo ol asa : Nat} (hL : L ≤ 2560) (C0 : lw_At p s m meth c b L xs) (hK : pw_K D cI cP cR s) (hro : ∀ i j, i < 3 → j < 3 → ro i = ro j → i = j) : ∀ (n kk : Nat), 5 * kk ≤ L → L + 1 ≤ 5 * kk + n → ∀ (md : Nat) (rc RF : Nat → Int32) (cr : Nat → Nat × Nat × (Nat → Int32)) (T : Nat → Nat → Int32) (Z : Nat → Nat) (pg : Nat → PgT) (R P Hd HA Lo Ol AS : Nat → Int32), Rel kk md rc RF cr T Z pg R P Hd HA Lo Ol → ∀ (H : Heap) (locs : List Loc), va_P D vwCl (cW cI cP cR h qr qp ro ao po md rc cr pg ++ mW cI x t z rf rwa pl hd ha lo ol asa md T Z RF R P Hd HA Lo Ol AS) H → va_D (fun q : Nat => s.heap.size ≤ q) (cW cI cP cR h qr qp ro ao po md rc cr pg ++ mW cI x t z rf rwa pl hd ha lo ol asa md T Z RF R P Hd HA Lo Ol AS) → va_S (fun q : Nat => s.heap.size ≤ q) s.heap H locs → ∀ ls : Array Slot, lv_has ls 4 [(3, .int (nI (5 * kk))), (0, .ref b), (1, .ref h), (2, .ref x)] → W p l e room_1 s m #[Value.ref b] below meth c H locs 24 525 (lw_Z below #[Value.ref b] s) (F0 m 18 ls []) := by
  have C1 := C0
  obtain ⟨hx, hb, hr, hml, hown, hts, hX, hbl, hlocks, hgv⟩ := C0
  have hbA : ¬ (fun q : Nat => s.heap.size ≤ q) b := Nat.not_le.mpr hbl
  intro n
  induction n with
  | zero =>
    intro kk h1 h2
    exact absurd h2 (by omega)
  | succ n ih =>
    intro kk h1 h2 md rc RF cr T Z pg R P Hd HA Lo Ol AS hR H locs hP hD hS ls hl
    refine lv_iload_n hx hb dL_law_18 rfl (lv_at hl 0 rfl) ?_
    refine lv_aload_n hx hb dL_law_19 rfl (lv_at hl 1 rfl) ?_
    refine va_slen hx hb hX hbl hbA hS dL_law_20 ?_
    refine lv_iconst (v := nI 5) hx hb dL_law_21 (by decide) ?_
    refine lv_isub hx hb dL_law_22 ?_
    refine lv_icmp_gt (tgt := 1117) hx hb dL_law_23 (by decide) (fun c_1 => ?_) (fun c_1 => ?_)
    · refine lv_iconst (v := 1) hx hb dL_law_1117 (by decide) ?_
      refine va_forget (fun q hq => hS.2.2 q hq) ?_
      refine W.widen (k := 600000) (n := 7302250) (Nat.le_of_ble_eq_true rfl) (Nat.le_of_ble_eq_true rfl) ?_
      exact lw_ret hx hb hr hlocks dL_law_1118
    · have h5 : 5 * kk + 5 ≤ L := Nat.not_lt.mp (fun q => c_1 ((lw_lt (by omega) (by omega)).mpr q))
      have cont : ∀ (md2 : Nat) (rc2 RF2 : Nat → Int32) (cr2 : Nat → Nat × Nat × (Nat → Int32)) (T2 : Nat → Nat → Int32) (Z2 : Nat → Nat) (pg2 : Nat → PgT) (R2 P2 Hd2 HA2 Lo2 Ol2 AS2 : Nat → Int32), Rel (kk + 1) md2 rc2 RF2 cr2 T2 Z2 pg2 R2 P2 Hd2 HA2 Lo2 Ol2 → ∀ (H : Heap) (locs : List Loc), va_P D vwCl (cW cI cP cR h qr qp ro ao po md2 rc2 cr2 pg2 ++ mW cI x t z rf rwa pl hd ha lo ol asa md2 T2 Z2 RF2 R2 P2 Hd2 HA2 Lo2 Ol2 AS2) H → va_D (fun q : Nat => s.heap.size ≤ q) (cW cI cP cR h qr qp ro ao po md2 rc2 cr2 pg2 ++ mW cI x t z rf rwa pl hd ha lo ol asa md2 T2 Z2 RF2 R2 P2 Hd2 HA2 Lo2 Ol2 AS2) → va_S (fun q : Nat => s.heap.size ≤ q) s.heap H locs → ∀ ls : Array Slot, lv_has ls 4 [(3, .int (nI (5 * kk))), (0, .ref b), (1, .ref h), (2, .ref x)] → W p l e room_1 s m #[Value.ref b] below meth c H locs 24 525 (lw_Z below #[Value.ref b] s) (F0 m 1111 ls []) := by
        intro md2 rc2 RF2 cr2 T2 Z2 pg2 R2 P2 Hd2 HA2 Lo2 Ol2 AS2 hR2 H locs hP hD hS ls hl
        refine lv_iinc (v := nI (5 * kk + 5)) (lv' := [(3, .int (nI (5 * kk + 5))), (0, .ref b), (1, .ref h), (2, .ref x)]) hx hb dL_law_1111 hl (k := 0) rfl (pw_inc _ 5) (by decide) rfl (fun ls hl => ?_)
        refine lv_goto (tgt := 18) hx hb dL_law_1114 (by decide) ?_
        exact ih (kk + 1) (by omega) (by omega) md2 rc2 RF2 cr2 T2 Z2 pg2 R2 P2 Hd2 HA2 Lo2 Ol2 AS2 hR2 H locs hP hD hS ls hl
      refine lv_aload_n hx hb dL_law_26 rfl (lv_at hl 1 rfl) ?_
      refine lv_iload_n hx hb dL_law_27 rfl (lv_at hl 0 rfl) ?_
      refine pw_sld hx hb hX hbl hbA hS (show 5 * kk < L by omega) (by omega) dL_law_28 ?_
      refine lv_bipush (v := nI 31) hx hb dL_law_29 (by decide) ?_
      refine lv_iand hx hb dL_law_31 ?_
      obtain ⟨j, hj, ej⟩ := pk_andE (xs (5 * kk)) (m := nI 31) 5 (by decide +kernel)
      refine pw_top ej ?_
      rcases (show j = 0 ∨ j = 1 ∨ j = 2 ∨ j = 3 ∨ j = 4 ∨ j = 5 ∨ j = 6 ∨ j = 7 ∨ j = 8 ∨ j = 9 ∨ j = 10 ∨ j = 11 ∨ j = 12 ∨ j = 13 ∨ j = 14 ∨ j = 15 ∨ j = 16 ∨ j = 17 ∨ j = 18 ∨ j = 19 ∨ j = 20 ∨ j = 21 ∨ j = 22 ∨ j = 23 ∨ j = 24 ∨ j = 25 ∨ j = 26 ∨ 26 < j by omega) with rfl | rfl | rfl | rfl | rfl | rfl | rfl | rfl | rfl | rfl | rfl | rfl | rfl | rfl | rfl | rfl | rfl | rfl | rfl | rfl | rfl | rfl | rfl | rfl | rfl | rfl | rfl | hj26
      · refine lv_tableIn (off := 124) (tgt := 156) hx hb dL_law_32 (by decide) (by decide) (by decide +kernel) (by decide) ?_
        exact lc_put hL C1 hK hro h5 hR cont H locs hP hD hS ls hl
      · refine lv_tableIn (off := 193) (tgt := 225) hx hb dL_law_32 (by decide) (by decide) (by decide +kernel) (by decide) ?_
        exact lc_end hL C1 hK hro h5 hR cont H locs hP hD hS ls hl
      · refine lv_tableIn (off := 252) (tgt := 284) hx hb dL_law_32 (by decide) (by decide) (by decide +kernel) (by decide) ?_
        exact lc_take hL C1 hK hro h5 hR cont H locs hP hD hS ls hl
      · refine lv_tableIn (off := 311) (tgt := 343) hx hb dL_law_32 (by decide) (by decide) (by decide +kernel) (by decide) ?_
        exact lc_at hL C1 hK hro h5 hR cont H locs hP hD hS ls hl
      · refine lv_tableIn (off := 344) (tgt := 376) hx hb dL_law_32 (by decide) (by decide) (by decide +kernel) (by decide) ?_
        exact lc_lay hL C1 hK hro h5 hR cont H locs hP hD hS ls hl
      · refine lv_tableIn (off := 387) (tgt := 419) hx hb dL_law_32 (by decide) (by decide) (by decide +kernel) (by decide) ?_
        exact lc_insert hL C1 hK hro h5 hR cont H locs hP hD hS ls hl
      · refine lv_tableIn (off := 430) (tgt := 462) hx hb dL_law_32 (by decide) (by decide) (by decide +kernel) (by decide) ?_
        exact lc_drop hL C1 hK hro h5 hR cont H locs hP hD hS ls hl
      · refine lv_tableIn (off := 463) (tgt := 495) hx hb dL_law_32 (by decide) (by decide) (by decide +kernel) (by decide) ?_
        exact lc_find hL C1 hK hro h5 hR cont H locs hP hD hS ls hl
      · refine lv_tableIn (off := 522) (tgt := 554) hx hb dL_law_32 (by decide) (by decide) (by decide +kernel) (by decide) ?_
        exact lc_has hL C1 hK hro h5 hR cont H locs hP hD hS ls hl
      · refine lv_tableIn (off := 555) (tgt := 587) hx hb dL_law_32 (by decide) (by decide) (by decide +kernel) (by decide) ?_
        exact lc_lose hL C1 hK hro h5 hR cont H locs hP hD hS ls hl
      · refine lv_tableIn (off := 598) (tgt := 630) hx hb dL_law_32 (by decide) (by decide) (by decide +kernel) (by decide) ?_
        exact lc_all hL C1 hK hro h5 hR cont H locs hP hD hS ls hl
      · refine lv_tableIn (off := 641) (tgt := 673) hx hb dL_law_32 (by decide) (by decide) (by decide +kernel) (by decide) ?_
        exact lc_clear hL C1 hK hro h5 hR cont H locs hP hD hS ls hl
      · refine lv_tableIn (off := 664) (tgt := 696) hx hb dL_law_32 (by decide) (by decide) (by decide +kernel) (by decide) ?_
        exact lc_copy hL C1 hK hro h5 hR cont H locs hP hD hS ls hl
      · refine lv_tableIn (off := 697) (tgt := 729) hx hb dL_law_32 (by decide) (by decide) (by decide +kernel) (by decide) ?_
        exact lc_turn hL C1 hK hro h5 hR cont H locs hP hD hS ls hl
      · refine lv_tableIn (off := 720) (tgt := 752) hx hb dL_law_32 (by decide) (by decide) (by decide +kernel) (by decide) ?_
        exact lc_weave hL C1 hK hro h5 hR cont H locs hP hD hS ls hl
      · refine lv_tableIn (off := 753) (tgt := 785) hx hb dL_law_32 (by decide) (by decide) (by decide +kernel) (by decide) ?_
        exact lc_prune hL C1 hK hro h5 hR cont H locs hP hD hS ls hl
      · refine lv_tableIn (off := 776) (tgt := 808) hx hb dL_law_32 (by decide) (by decide) (by decide +kernel) (by decide) ?_
        exact lc_size hL C1 hK hro h5 hR cont H locs hP hD hS ls hl
      · refine lv_tableIn (off := 799) (tgt := 831) hx hb dL_law_32 (by decide) (by decide) (by decide +kernel) (by decide) ?_
        exact lc_sum hL C1 hK hro h5 hR cont H locs hP hD hS ls hl
      · refine lv_tableIn (off := 822) (tgt := 854) hx hb dL_law_32 (by decide) (by decide) (by decide +kernel) (by decide) ?_
        exact lc_peg hL C1 hK hro h5 hR cont H locs hP hD hS ls hl
      · refine lv_tableIn (off := 865) (tgt := 897) hx hb dL_law_32 (by decide) (by decide) (by decide +kernel) (by decide) ?_
        exact lc_next hL C1 hK hro h5 hR cont H locs hP hD hS ls hl
      · refine lv_tableIn (off := 888) (tgt := 920) hx hb dL_law_32 (by decide) (by decide) (by decide +kernel) (by decide) ?_
        exact lc_previous hL C1 hK hro h5 hR cont H locs hP hD hS ls hl
      · refine lv_tableIn (off := 911) (tgt := 943) hx hb dL_law_32 (by decide) (by decide) (by decide +kernel) (by decide) ?_
        exact lc_side hL C1 hK hro h5 hR cont H locs hP hD hS ls hl
      · refine lv_tableIn (off := 944) (tgt := 976) hx hb dL_law_32 (by decide) (by decide) (by decide +kernel) (by decide) ?_
        exact lc_change hL C1 hK hro h5 hR cont H locs hP hD hS ls hl
      · refine lv_tableIn (off := 977) (tgt := 1009) hx hb dL_law_32 (by decide) (by decide) (by decide +kernel) (by decide) ?_
        exact lc_add hL C1 hK hro h5 hR cont H locs hP hD hS ls hl
      · refine lv_tableIn (off := 1010) (tgt := 1042) hx hb dL_law_32 (by decide) (by decide) (by decide +kernel) (by decide) ?_
        exact lc_remove hL C1 hK hro h5 hR cont H locs hP hD hS ls hl
      · refine lv_tableIn (off := 1033) (tgt := 1065) hx hb dL_law_32 (by decide) (by decide) (by decide +kernel) (by decide) ?_
        exact lc_old hL C1 hK hro h5 hR cont H locs hP hD hS ls hl
      · refine lv_tableIn (off := 1056) (tgt := 1088) hx hb dL_law_32 (by decide) (by decide) (by decide +kernel) (by decide) ?_
        exact lc_count hL C1 hK hro h5 hR cont H locs hP hD hS ls hl
      · refine lv_tableOut (tgt := 1111) hx hb dL_law_32 (Or.inr (by rw [nI_toInt (by omega)]; omega)) (by decide) ?_
        exact cont md rc RF cr T Z pg R P Hd HA Lo Ol AS (Rel_up hR) H locs hP hD hS ls hl
theorem arrV_ext (cA : ClassId) {n : Nat} {f g : Nat → Value} (h : ∀ j, j < n → f j = g j) : arrV cA n f = arrV cA n g := by
  unfold arrV
  congr 1
  congr 1
  funext j
  exact h j.1 j.2
theorem va_P_setc {D : va_G} {cl : List vw_C} {w : va_W} {H : Heap} (h : va_P D cl w H) (k : Nat) {a : Nat} {e e2 : va_E} (hk : w[k]? = some (a, e)) (he : va_at D cl (a, e) H → va_at D cl (a, e2) H) : va_P D cl (w.set k (a, e2)) H := by
  intro i q hq
  by_cases hi : i = k
  · subst hi
    have hl : i < w.length := (List.getElem?_eq_some_iff.mp hk).1
    rw [List.getElem?_set_self hl] at hq
    cases hq
    exact he (h i _ hk)
  · rw [List.getElem?_set_ne (Ne.symm hi)] at hq
    exact h i q hq
theorem va_at_refs {D : va_G} {cl : List vw_C} {H : Heap} {a : Nat} {cA : ClassId} {n : Nat} {f g : Nat → Option Nat} (h : ∀ j, j < n → f j = g j) (hq : va_at D cl (a, .inl (cA, n, .inr (.inr (.inr (.inr f))))) H) : va_at D cl (a, .inl (cA, n, .inr (.inr (.inr (.inr g))))) H := by
  have e : vp_cell cA (n, .inr (.inr (.inr (.inr f)))) = vp_cell cA (n, .inr (.inr (.inr (.inr g)))) := arrV_ext cA (f := fun j => va_rf (f j)) (g := fun j => va_rf (g j)) (fun j hj => by rw [h j hj])
  show H[a]? = some _
  rw [← e]
  exact hq

theorem nw0_in : Cond.fieldLinkNest "Pegrow" 34 "Pegrow$Row" "length" "I" "Pegrow" ∈ lw_tbl := List.mem_of_getElem? (i := 47) (by decide +kernel)
theorem nw1_in : Cond.fieldLinkNest "Pegrow" 119 "Pegrow$Peg" "row" "LPegrow$Row;" "Pegrow" ∈ lw_tbl := List.mem_of_getElem? (i := 64) (by decide +kernel)
theorem nw2_in : Cond.fieldLinkNest "Pegrow" 127 "Pegrow$Peg" "ahead" "I" "Pegrow" ∈ lw_tbl := List.mem_of_getElem? (i := 66) (by decide +kernel)
theorem nw3_in : Cond.fieldLinkNest "Pegrow" 134 "Pegrow$Peg" "hand" "I" "Pegrow" ∈ lw_tbl := List.mem_of_getElem? (i := 69) (by decide +kernel)
theorem nw4_in : Cond.fieldLinkNest "Pegrow" 165 "Pegrow$Peg" "held" "I" "Pegrow" ∈ lw_tbl := List.mem_of_getElem? (i := 71) (by decide +kernel)
theorem nw5_in : Cond.fieldLinkNest "Pegrow" 161 "Pegrow$Peg" "missed" "Z" "Pegrow" ∈ lw_tbl := List.mem_of_getElem? (i := 73) (by decide +kernel)
theorem nw6_in : Cond.fieldLinkNest "Pegrow$Peg" 22 "Pegrow$Row" "changes" "I" "Pegrow" ∈ lw_tbl := List.mem_of_getElem? (i := 48) (by decide +kernel)
theorem nw7_in : Cond.methodLinkNest "Pegrow" 21 yX1_init "Pegrow" ∈ lw_tbl := List.mem_of_getElem? (i := 41) (by decide +kernel)
theorem nw8_in : Cond.methodLinkNest "Pegrow" 22 yX0_init "Pegrow" ∈ lw_tbl := List.mem_of_getElem? (i := 59) (by decide +kernel)
theorem nwR_in : Cond.arrayOver (.object "Pegrow$Row") ∈ lw_tbl := List.mem_of_getElem? (i := 37) (by decide +kernel)
theorem nwP_in : Cond.arrayOver (.object "Pegrow$Peg") ∈ lw_tbl := List.mem_of_getElem? (i := 39) (by decide +kernel)
theorem nwI_in : Cond.arrayClass .int ∈ lw_tbl := List.mem_of_getElem? (i := 57) (by decide +kernel)
theorem nwi0_in : Cond.instantiable RX0 6 ∈ lw_tbl := List.mem_of_getElem? (i := 58) (by decide +kernel)
theorem nwi1_in : Cond.instantiable RX1 3 ∈ lw_tbl := List.mem_of_getElem? (i := 40) (by decide +kernel)
theorem nwi2_in : Cond.instantiable RX2 7 ∈ lw_tbl := List.mem_of_getElem? (i := 29) (by decide +kernel)
theorem nwi3_in : Cond.instantiable RX3 11 ∈ lw_tbl := List.mem_of_getElem? (i := 350) (by decide +kernel)
set_option maxHeartbeats 4000000 in
theorem pw_start {s : State} {args : Array Value} (hts : ∀ w ∈ lw_tbl, w.before args s = true) : ∃ (D : va_G) (cI cP cR : ClassId), pw_K D cI cP cR s := by
  obtain ⟨c0, iS0, hKn0⟩ := u_known (C := RX0) (T := TX0) (N := 6) (n := 6) hts inX0 (hts _ nwi0_in)
  obtain ⟨c1, iS1, hKn1⟩ := u_known (C := RX1) (T := TX1) (N := 3) (n := 3) hts inX1 (hts _ nwi1_in)
  obtain ⟨c2, iS2, hKn2⟩ := u_known (C := RX2) (T := TX2) (N := 7) (n := 7) hts inX2 (hts _ nwi2_in)
  obtain ⟨c3, iS3, hKn3⟩ := u_known (C := RX3) (T := TX3) (N := 11) (n := 11) hts inX3 (hts _ nwi3_in)
  obtain ⟨dC, dI, hKc⟩ : ∃ (dC : Nat → ClassId) (dI : Nat → Nat → Nat), ∀ (k : Nat) (q : vw_C), vwCl[k]? = some q → u_Kn s q.1 q.2.1 q.2.2 (dC k) (dI k) := by
    refine ⟨fun k => if k = 0 then c0 else if k = 1 then c1 else if k = 2 then c2 else c3, fun k => if k = 0 then iS0 else if k = 1 then iS1 else if k = 2 then iS2 else iS3, ?_⟩
    intro k q hq
    match k, hq with
    | 0, hq => cases hq; exact hKn0
    | 1, hq => cases hq; exact hKn1
    | 2, hq => cases hq; exact hKn2
    | 3, hq => cases hq; exact hKn3
    | k + 4, hq => simp [vwCl] at hq
  obtain ⟨cI, kI, compI, i1, i2, i3⟩ := Cond.arrayClass_spec (hts _ nwI_in)
  obtain ⟨compR, cR, kR, r1, -, r3, r4, r5⟩ := Cond.arrayOver_spec (hts _ nwR_in)
  obtain ⟨compP, cP, kP, p1, -, p3, p4, p5⟩ := Cond.arrayOver_spec (hts _ nwP_in)
  refine ⟨(dC, dI), cI, cP, cR, ⟨hKc, fun k q hq => ?_⟩, va_Nw.of rfl (hts _ nw0_in), va_Nw.of rfl (hts _ nw1_in), va_Nw.of rfl (hts _ nw2_in), va_Nw.of rfl (hts _ nw3_in), va_Nw.of rfl (hts _ nw4_in), va_Nw.of rfl (hts _ nw5_in), va_Nw.of rfl (hts _ nw6_in), va_Nw.of rfl (hts _ nw7_in), va_Nw.of rfl (hts _ nw8_in), va_AO.of (hts _ nwR_in), va_AO.of (hts _ nwP_in)⟩
  match k, hq with
  | 0, hq => cases hq; exact ⟨fun n z => ⟨fun k h => (by cases h), kI, i2, compI, i3⟩, i1⟩
  | 1, hq => cases hq; exact ⟨fun n z => ⟨fun k h => (by cases h), kP, p3, compP, p4⟩, kP, compP, p3, p4, p1, p5⟩
  | 2, hq => cases hq; exact ⟨fun n z => ⟨fun k h => (by cases h), kR, r3, compR, r4⟩, kR, compR, r3, r4, r1, r5⟩
  | k + 3, hq => simp [pw_tys] at hq
