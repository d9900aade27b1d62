theorem wcl2_in : Cond.classLink RL 7 RX2 ∈ lw_tbl := List.mem_of_getElem? (i := 28) (by decide +kernel)
theorem wcl3_in : Cond.classLink RL 10 RX3 ∈ lw_tbl := List.mem_of_getElem? (i := 349) (by decide +kernel)
theorem win2_in : Cond.initialized RX2 ∈ lw_tbl := List.mem_of_getElem? (i := 23) (by decide +kernel)
theorem win3_in : Cond.initialized RX3 ∈ lw_tbl := List.mem_of_getElem? (i := 26) (by decide +kernel)
theorem wml2_in : Cond.methodLink RL 9 yX2_init ∈ lw_tbl := List.mem_of_getElem? (i := 30) (by decide +kernel)
theorem wml3_in : Cond.methodLink RL 12 yX3_init ∈ lw_tbl := List.mem_of_getElem? (i := 351) (by decide +kernel)
theorem wim2_in : Cond.instanceMethod yX2_init ∈ lw_tbl := List.mem_of_getElem? (i := 31) (by decide +kernel)
theorem wim3_in : Cond.instanceMethod yX3_init ∈ lw_tbl := List.mem_of_getElem? (i := 352) (by decide +kernel)
set_option maxHeartbeats 4000000 in
set_option maxRecDepth 100000 in
/-- the law, from its entry -/
theorem whole_start {p : Program} {e : Env} {s : State} {m : MethodId} {below : List Frame} {meth : Method} {c : Code} (l : Launch) (hflags : l.flags = flags0) {b L : Nat} {xs : Nat → Int32} (hL : L ≤ 2560) (C0 : lw_At p s m meth c b L xs) : W p l e room_1 s m #[Value.ref b] below meth c s.heap [] 0 0 (lw_Z below #[Value.ref b] s) (entryFrame m ([Value.ref b] : List Value).toArray 4) := by
  have C1 := C0
  obtain ⟨hx, hb, hr, hml, hown, hts, hX, hbl, hlocks, hgv⟩ := C0
  have htl : ∀ w ∈ wsL_law, w.before #[Value.ref b] s = true := fun w hw => hts w (wsL_law_in w hw)
  have hA : ∀ q : Nat, s.heap.size ≤ q → (fun q : Nat => s.heap.size ≤ q) q := fun _ h => h
  obtain ⟨D, cI, cP, cR, hK⟩ := pw_start hts
  have hS : va_S (fun q : Nat => s.heap.size ≤ q) s.heap s.heap [] := va_S.rf
  have hP : va_P D vwCl [] s.heap := fun k q h => by simp at h
  have hD : va_D (fun q : Nat => s.heap.size ≤ q) [] := ⟨fun i j p q h => by simp at h, fun k q h => by simp at h⟩
  have hl := lv_entry ([.ref b]) (n := 4) (Nat.le_of_ble_eq_true rfl)
  rw [lg_entry_eq]
  generalize (lg_sl ([.ref b]) ++ List.replicate (4 - (lg_sl ([.ref b])).length) Slot.unset).toArray = ls at hl ⊢
  have hl : lv_has ls 4 [(0, .ref b)] := hl
  refine va_new (ci := 2) (fs := [.null, .null, .int (nI 0), .int (nI 0), .int (nI 0), .int (nI 0), .int (nI 0)]) (C := RX2) (T := TX2) (N := 7) hx hb hts inX2 tyX2 tyX2_ok hown (hts _ wcl2_in) (hts _ nwi2_in) (hts _ win2_in) hK.1 hP hD hS hA rfl (fun j hj => by rcases (show j = 0 ∨ j = 1 ∨ j = 2 ∨ j = 3 ∨ j = 4 ∨ j = 5 ∨ j = 6 by omega) with rfl | rfl | rfl | rfl | rfl | rfl | rfl <;> rfl) (Nat.le_of_ble_eq_true rfl) (Nat.le_of_ble_eq_true rfl) dL_law_0 (fun h H hP hD hS => ?_)
  have hP : va_P D vwCl [(h, .inr (2, [.null, .null, .int (nI 0), .int (nI 0), .int (nI 0), .int (nI 0), .int (nI 0)]))] H := hP
  have hD : va_D (fun q : Nat => s.heap.size ≤ q) [(h, .inr (2, [.null, .null, .int (nI 0), .int (nI 0), .int (nI 0), .int (nI 0), .int (nI 0)]))] := hD
  refine lv_dup hx hb dL_law_3 rfl ?_
  refine pw_cIa (Ts := wsL_law) (own := RL) (wc := [(h, .inr (2, [.null, .null, .int (nI 0), .int (nI 0), .int (nI 0), .int (nI 0), .int (nI 0)]))]) (wr := []) (rest := [.ref h]) ⟨hx, hb, hml, hown, htl⟩ (c_Pegrow_init l D cI cP cR h) (cwI 0 htl gL_law_X2_init rfl rfl rfl (hts _ win2_in) (hts _ wml2_in) (hts _ wim2_in) rfl (by decide +kernel) ⟨Nat.le_of_ble_eq_true rfl, Nat.le_of_ble_eq_true rfl⟩) hK hP hD hS hA [0] [] rfl rfl (by decide) (by decide) (by decide) hl.1 rfl (Nat.le_of_ble_eq_true rfl) dL_law_4 ⟨Nat.le_of_ble_eq_true rfl, Nat.le_of_ble_eq_true rfl⟩ (fun v1 w1 H locs hq hP hD hS => ?_)
  obtain ⟨qr, qp, o0, o1, o2, a0, a1, a2, b0, b1, b2, b3, rfl, rfl⟩ := hq
  have hP : va_P D vwCl [(h, .inr (2, [.ref qr, .ref qp, .int (nI 0), .int (nI 0), .int (nI 0), .int (nI 0), .int (nI 0)])), (qr, .inl (cR, 3, .inr (.inr (.inr (.inr (va_up (va_up (va_up (fun _ => none) 0 (some o0)) 1 (some o1)) 2 (some o2))))))), (qp, .inl (cP, 4, .inr (.inr (.inr (.inr (va_up (va_up (va_up (va_up (fun _ => none) 0 (some b0)) 1 (some b1)) 2 (some b2)) 3 (some b3))))))), (o0, .inr (1, [.ref a0, .int (nI 0), .int (nI 0)])), (a0, .inl (cI, 60, .inl (fun _ => 0))), (o1, .inr (1, [.ref a1, .int (nI 0), .int (nI 0)])), (a1, .inl (cI, 60, .inl (fun _ => 0))), (o2, .inr (1, [.ref a2, .int (nI 0), .int (nI 0)])), (a2, .inl (cI, 60, .inl (fun _ => 0))), (b0, .inr (0, [.null, .int (nI 0), .int (nI 0), .int (-1), .int (nI 0), .int (nI 0)])), (b1, .inr (0, [.null, .int (nI 0), .int (nI 0), .int (-1), .int (nI 0), .int (nI 0)])), (b2, .inr (0, [.null, .int (nI 0), .int (nI 0), .int (-1), .int (nI 0), .int (nI 0)])), (b3, .inr (0, [.null, .int (nI 0), .int (nI 0), .int (-1), .int (nI 0), .int (nI 0)]))] H := hP
  have hD : va_D (fun q : Nat => s.heap.size ≤ q) [(h, .inr (2, [.ref qr, .ref qp, .int (nI 0), .int (nI 0), .int (nI 0), .int (nI 0), .int (nI 0)])), (qr, .inl (cR, 3, .inr (.inr (.inr (.inr (va_up (va_up (va_up (fun _ => none) 0 (some o0)) 1 (some o1)) 2 (some o2))))))), (qp, .inl (cP, 4, .inr (.inr (.inr (.inr (va_up (va_up (va_up (va_up (fun _ => none) 0 (some b0)) 1 (some b1)) 2 (some b2)) 3 (some b3))))))), (o0, .inr (1, [.ref a0, .int (nI 0), .int (nI 0)])), (a0, .inl (cI, 60, .inl (fun _ => 0))), (o1, .inr (1, [.ref a1, .int (nI 0), .int (nI 0)])), (a1, .inl (cI, 60, .inl (fun _ => 0))), (o2, .inr (1, [.ref a2, .int (nI 0), .int (nI 0)])), (a2, .inl (cI, 60, .inl (fun _ => 0))), (b0, .inr (0, [.null, .int (nI 0), .int (nI 0), .int (-1), .int (nI 0), .int (nI 0)])), (b1, .inr (0, [.null, .int (nI 0), .int (nI 0), .int (-1), .int (nI 0), .int (nI 0)])), (b2, .inr (0, [.null, .int (nI 0), .int (nI 0), .int (-1), .int (nI 0), .int (nI 0)])), (b3, .inr (0, [.null, .int (nI 0), .int (nI 0), .int (-1), .int (nI 0), .int (nI 0)]))] := hD
  refine W.eq (g2 := F0 m 7 ls [.ref h]) rfl ?_
  refine lv_astore_n (lv' := [(1, .ref h), (0, .ref b)]) hx hb dL_law_7 rfl hl (by decide) rfl (fun ls hl => ?_)
  refine va_new (ci := 3) (fs := [.null, .null, .int (nI 0), .null, .null, .null, .null, .null, .null, .null, .null]) (C := RX3) (T := TX3) (N := 11) hx hb hts inX3 tyX3 tyX3_ok hown (hts _ wcl3_in) (hts _ nwi3_in) (hts _ win3_in) hK.1 hP hD hS hA rfl (fun j hj => by rcases (show j = 0 ∨ j = 1 ∨ j = 2 ∨ j = 3 ∨ j = 4 ∨ j = 5 ∨ j = 6 ∨ j = 7 ∨ j = 8 ∨ j = 9 ∨ j = 10 by omega) with rfl | rfl | rfl | rfl | rfl | rfl | rfl | rfl | rfl | rfl | rfl <;> rfl) (Nat.le_of_ble_eq_true rfl) (Nat.le_of_ble_eq_true rfl) dL_law_8 (fun x H hP hD hS => ?_)
  have hP : va_P D vwCl ([(h, .inr (2, [.ref qr, .ref qp, .int (nI 0), .int (nI 0), .int (nI 0), .int (nI 0), .int (nI 0)])), (qr, .inl (cR, 3, .inr (.inr (.inr (.inr (va_up (va_up (va_up (fun _ => none) 0 (some o0)) 1 (some o1)) 2 (some o2))))))), (qp, .inl (cP, 4, .inr (.inr (.inr (.inr (va_up (va_up (va_up (va_up (fun _ => none) 0 (some b0)) 1 (some b1)) 2 (some b2)) 3 (some b3))))))), (o0, .inr (1, [.ref a0, .int (nI 0), .int (nI 0)])), (a0, .inl (cI, 60, .inl (fun _ => 0))), (o1, .inr (1, [.ref a1, .int (nI 0), .int (nI 0)])), (a1, .inl (cI, 60, .inl (fun _ => 0))), (o2, .inr (1, [.ref a2, .int (nI 0), .int (nI 0)])), (a2, .inl (cI, 60, .inl (fun _ => 0))), (b0, .inr (0, [.null, .int (nI 0), .int (nI 0), .int (-1), .int (nI 0), .int (nI 0)])), (b1, .inr (0, [.null, .int (nI 0), .int (nI 0), .int (-1), .int (nI 0), .int (nI 0)])), (b2, .inr (0, [.null, .int (nI 0), .int (nI 0), .int (-1), .int (nI 0), .int (nI 0)])), (b3, .inr (0, [.null, .int (nI 0), .int (nI 0), .int (-1), .int (nI 0), .int (nI 0)]))] ++ [(x, .inr (3, [.null, .null, .int (nI 0), .null, .null, .null, .null, .null, .null, .null, .null]))]) H := hP
  have hD : va_D (fun q : Nat => s.heap.size ≤ q) ([(h, .inr (2, [.ref qr, .ref qp, .int (nI 0), .int (nI 0), .int (nI 0), .int (nI 0), .int (nI 0)])), (qr, .inl (cR, 3, .inr (.inr (.inr (.inr (va_up (va_up (va_up (fun _ => none) 0 (some o0)) 1 (some o1)) 2 (some o2))))))), (qp, .inl (cP, 4, .inr (.inr (.inr (.inr (va_up (va_up (va_up (va_up (fun _ => none) 0 (some b0)) 1 (some b1)) 2 (some b2)) 3 (some b3))))))), (o0, .inr (1, [.ref a0, .int (nI 0), .int (nI 0)])), (a0, .inl (cI, 60, .inl (fun _ => 0))), (o1, .inr (1, [.ref a1, .int (nI 0), .int (nI 0)])), (a1, .inl (cI, 60, .inl (fun _ => 0))), (o2, .inr (1, [.ref a2, .int (nI 0), .int (nI 0)])), (a2, .inl (cI, 60, .inl (fun _ => 0))), (b0, .inr (0, [.null, .int (nI 0), .int (nI 0), .int (-1), .int (nI 0), .int (nI 0)])), (b1, .inr (0, [.null, .int (nI 0), .int (nI 0), .int (-1), .int (nI 0), .int (nI 0)])), (b2, .inr (0, [.null, .int (nI 0), .int (nI 0), .int (-1), .int (nI 0), .int (nI 0)])), (b3, .inr (0, [.null, .int (nI 0), .int (nI 0), .int (-1), .int (nI 0), .int (nI 0)]))] ++ [(x, .inr (3, [.null, .null, .int (nI 0), .null, .null, .null, .null, .null, .null, .null, .null]))]) := hD
  refine lv_dup hx hb dL_law_11 rfl ?_
  refine pw_cIa (Ts := wsL_law) (own := RL) (wc := [(x, .inr (3, [.null, .null, .int (nI 0), .null, .null, .null, .null, .null, .null, .null, .null]))]) (wr := [(h, .inr (2, [.ref qr, .ref qp, .int (nI 0), .int (nI 0), .int (nI 0), .int (nI 0), .int (nI 0)])), (qr, .inl (cR, 3, .inr (.inr (.inr (.inr (va_up (va_up (va_up (fun _ => none) 0 (some o0)) 1 (some o1)) 2 (some o2))))))), (qp, .inl (cP, 4, .inr (.inr (.inr (.inr (va_up (va_up (va_up (va_up (fun _ => none) 0 (some b0)) 1 (some b1)) 2 (some b2)) 3 (some b3))))))), (o0, .inr (1, [.ref a0, .int (nI 0), .int (nI 0)])), (a0, .inl (cI, 60, .inl (fun _ => 0))), (o1, .inr (1, [.ref a1, .int (nI 0), .int (nI 0)])), (a1, .inl (cI, 60, .inl (fun _ => 0))), (o2, .inr (1, [.ref a2, .int (nI 0), .int (nI 0)])), (a2, .inl (cI, 60, .inl (fun _ => 0))), (b0, .inr (0, [.null, .int (nI 0), .int (nI 0), .int (-1), .int (nI 0), .int (nI 0)])), (b1, .inr (0, [.null, .int (nI 0), .int (nI 0), .int (-1), .int (nI 0), .int (nI 0)])), (b2, .inr (0, [.null, .int (nI 0), .int (nI 0), .int (-1), .int (nI 0), .int (nI 0)])), (b3, .inr (0, [.null, .int (nI 0), .int (nI 0), .int (-1), .int (nI 0), .int (nI 0)]))]) (rest := [.ref x]) ⟨hx, hb, hml, hown, htl⟩ (c_Model_init l D cI cP cR x) (cwI 0 htl gL_law_X3_init rfl rfl rfl (hts _ win3_in) (hts _ wml3_in) (hts _ wim3_in) rfl (by decide +kernel) ⟨Nat.le_of_ble_eq_true rfl, Nat.le_of_ble_eq_true rfl⟩) hK hP hD hS hA [13] [0, 1, 2, 3, 4, 5, 6, 7, 8, 9, 10, 11, 12] rfl rfl (by decide) (by decide) (by decide) hl.1 rfl (Nat.le_of_ble_eq_true rfl) dL_law_12 ⟨Nat.le_of_ble_eq_true rfl, Nat.le_of_ble_eq_true rfl⟩ (fun v1 w1 H locs hq hP hD hS => ?_)
  obtain ⟨t, z, rf, rw, pl, hd, ha, lo, ol, as_, rfl, rfl⟩ := hq
  have hP2 := va_P_setc (va_P_setc hP 1 (a := qr) rfl (va_at_refs (g := fun i => some ((fun i => if i = 0 then o0 else if i = 1 then o1 else o2) i)) (fun j hj => by rcases (show j = 0 ∨ j = 1 ∨ j = 2 by omega) with rfl | rfl | rfl <;> rfl))) 2 (a := qp) rfl (va_at_refs (g := fun i => some ((fun i => if i = 0 then b0 else if i = 1 then b1 else if i = 2 then b2 else b3) i)) (fun j hj => by rcases (show j = 0 ∨ j = 1 ∨ j = 2 ∨ j = 3 by omega) with rfl | rfl | rfl | rfl <;> rfl))
  have hD2 := (hD.set (p := 1) (a := qr) (e := .inl (cR, 3, .inr (.inr (.inr (.inr (fun i => some ((fun i => if i = 0 then o0 else if i = 1 then o1 else o2) i))))))) rfl).set (p := 2) (a := qp) (e := .inl (cP, 4, .inr (.inr (.inr (.inr (fun i => some ((fun i => if i = 0 then b0 else if i = 1 then b1 else if i = 2 then b2 else b3) i))))))) rfl
  have hP : va_P D vwCl (cW cI cP cR h qr qp (fun i => if i = 0 then o0 else if i = 1 then o1 else o2) (fun i => if i = 0 then a0 else if i = 1 then a1 else a2) (fun i => if i = 0 then b0 else if i = 1 then b1 else if i = 2 then b2 else b3) 0 (fun _ => nI 0) (fun _ => (0, 0, fun _ => 0)) (fun _ => (none, nI 0, 0, -1, nI 0, nI 0)) ++ mW cI x t z rf rw pl hd ha lo ol as_ 0 (fun _ _ => 0) (fun _ => 0) (fun _ => 0) (upd (upd (upd (upd (fun _ => 0) 0 (-1)) 1 (-1)) 2 (-1)) 3 (-1)) (fun _ => 0) (upd (upd (upd (upd (fun _ => 0) 0 (-1)) 1 (-1)) 2 (-1)) 3 (-1)) (fun _ => 0) (fun _ => 0) (fun _ => 0) (fun _ => 0)) H := hP2
  have hD : va_D (fun q : Nat => s.heap.size ≤ q) (cW cI cP cR h qr qp (fun i => if i = 0 then o0 else if i = 1 then o1 else o2) (fun i => if i = 0 then a0 else if i = 1 then a1 else a2) (fun i => if i = 0 then b0 else if i = 1 then b1 else if i = 2 then b2 else b3) 0 (fun _ => nI 0) (fun _ => (0, 0, fun _ => 0)) (fun _ => (none, nI 0, 0, -1, nI 0, nI 0)) ++ mW cI x t z rf rw pl hd ha lo ol as_ 0 (fun _ _ => 0) (fun _ => 0) (fun _ => 0) (upd (upd (upd (upd (fun _ => 0) 0 (-1)) 1 (-1)) 2 (-1)) 3 (-1)) (fun _ => 0) (upd (upd (upd (upd (fun _ => 0) 0 (-1)) 1 (-1)) 2 (-1)) 3 (-1)) (fun _ => 0) (fun _ => 0) (fun _ => 0) (fun _ => 0)) := hD2
  have h01 : ¬ o0 = o1 := fun q => absurd (hD.1 3 5 _ _ rfl rfl q) (by decide)
  have h02 : ¬ o0 = o2 := fun q => absurd (hD.1 3 7 _ _ rfl rfl q) (by decide)
  have h12 : ¬ o1 = o2 := fun q => absurd (hD.1 5 7 _ _ rfl rfl q) (by decide)
  have hro : ∀ i j, i < 3 → j < 3 → (fun i => if i = 0 then o0 else if i = 1 then o1 else o2) i = (fun i => if i = 0 then o0 else if i = 1 then o1 else o2) j → i = j := by
    intro i j hi hj hij
    rcases (show i = 0 ∨ i = 1 ∨ i = 2 by omega) with rfl | rfl | rfl <;> rcases (show j = 0 ∨ j = 1 ∨ j = 2 by omega) with rfl | rfl | rfl <;> first | rfl | (simp at hij; omega)
  have hR : Rel 0 0 (fun _ => nI 0) (fun _ => 0) (fun _ => (0, 0, fun _ => 0)) (fun _ _ => 0) (fun _ => 0) (fun _ => (none, nI 0, 0, -1, nI 0, nI 0)) (upd (upd (upd (upd (fun _ => 0) 0 (-1)) 1 (-1)) 2 (-1)) 3 (-1)) (fun _ => 0) (upd (upd (upd (upd (fun _ => 0) 0 (-1)) 1 (-1)) 2 (-1)) 3 (-1)) (fun _ => 0) (fun _ => 0) (fun _ => 0) := by
    refine ⟨Nat.le_refl 0, fun q _ => rfl, fun i _ => ⟨rfl, Nat.zero_le _, Nat.le_refl 0, fun j hj => absurd hj (Nat.not_lt_zero j)⟩, fun p hp => Or.inl ⟨?_, rfl, rfl⟩⟩
    rcases (show p = 0 ∨ p = 1 ∨ p = 2 ∨ p = 3 by omega) with rfl | rfl | rfl | rfl <;> rfl
  refine W.eq (g2 := F0 m 15 ls [.ref x]) rfl ?_
  refine lv_astore_n (lv' := [(2, .ref x), (1, .ref h), (0, .ref b)]) hx hb dL_law_15 rfl hl (by decide) rfl (fun ls hl => ?_)
  refine lv_iconst (v := nI 0) hx hb dL_law_16 (by decide) ?_
  refine lv_istore_n (lv' := [(3, .int (nI 0)), (2, .ref x), (1, .ref h), (0, .ref b)]) hx hb dL_law_17 rfl hl (by decide) rfl (fun ls hl => ?_)
  exact law_loop l hL C1 hK hro (L + 1) 0 (Nat.zero_le _) (by omega) 0 _ _ _ _ _ _ _ _ _ _ _ _ _ hR H _ hP hD hS ls (lv_sub hl [0, 3, 2, 1] rfl)
set_option maxHeartbeats 4000000 in
theorem lw_walk (l : Launch) (hflags : l.flags = flags0) (b : Addr) (xs : List Int32) : MetFree l x (headSpec (Jvm.Cond.code x code maxLocals ret :: tables_1) room_1) (lw_P b xs) (fun _ _ _ _ _ => True) lw_Q := by
  refine MetFree.of_bodyS (code := code) (maxLocals := maxLocals) (ret := ret) (by decide) ?_ ?_
  · intro args s m h hn
    obtain ⟨meth, c, h1, h2, h3, h4, h5, h6, -, -⟩ := Cond.code_spec hn (atoms_spec (ws := Jvm.Cond.code x code maxLocals ret :: tables_1) h _ List.mem_cons_self)
    exact ⟨meth, c, h1, h2, h3, h4, h5, h6⟩
  · intro p e s m args below meth c s₁ B hml0 hP _
    obtain ⟨rfl, hx, hbd, hgv⟩ := hP
    obtain ⟨scr, harrAt, hlist, hof, hsmall⟩ := hx
    obtain ⟨hcb, hkn, -, -⟩ := State.arrayAt?_spec harrAt
    have hown : s.vm.findClass R_law = some m.cls := findClass_of_methodNamed B.named
    have hts0 : ∀ c ∈ (Jvm.Cond.code x code maxLocals ret :: tables_1), c.before #[Value.ref b] s = true := atoms_spec (ws := Jvm.Cond.code x code maxLocals ret :: tables_1) B.pre
    have hts : ∀ w ∈ lw_tbl, w.before #[Value.ref b] s = true := k2_hts_sels lw_privs (fun w hw => hts0 w (List.mem_cons_of_mem _ hw)) lw_privs_ok
    have hml : c.maxLocals = 4 := B.maxLocals_eq (hts0 _ List.mem_cons_self)
    have X₀ : Stand p l e room_1 s m #[Value.ref b] below meth c s₁ [] 0 0 := Stand.of_body B
    have hh0 : s₁.heap = s.heap := by rw [B.state]; rfl
    have hsz : scr.slots.size = xs.length := by rw [← Array.length_toList, hlist, List.length_map]
    have hval : ∀ j : Nat, j < xs.length → scr.slots[j]? = some (.int (xs.getD j 0)) := fun j hj => by
      rw [← Array.getElem?_toList, hlist]
      simp [hj]
    have hbl : b < s.heap.size := (Array.getElem?_eq_some_iff.mp hcb).1
    have hX : va_X b xs.length (fun j => xs.getD j 0) s s.heap := ⟨scr, hcb, hof, hkn, hsz, hval⟩
    have K : W p l e room_1 s m #[Value.ref b] below meth c s₁.heap [] 0 0 (lw_Z below #[Value.ref b] s) (entryFrame m ([Value.ref b] : List Value).toArray 4) := by
      rw [hh0]
      exact whole_start l hflags hbd ⟨B.exec, B.bytes, B.returns, hml, hown, hts, hX, hbl, B.notSynchronized, hgv⟩
    obtain ⟨t, a1, o, b1, b2, b3⟩ := K s₁ rfl X₀
    exact ⟨t, o, a1, b1, b2, b3⟩
theorem lw_pre_spec {args : Array Value} {s : State} (h : (Jvm.Cond.and given_1 narrow_1).before args s = true) (hr : rest_1_c.before args s = true) : ∃ (b : Addr) (xs : List Int32), lw_P b xs args s := by
  have hs := flat_of_before _ h
  have hq := flat_of_before _ hr
  have hc : (Cond.count 1).before args s = true := hs _ (by decide +kernel)
  have harr : (Cond.arrayOf (.arg 0) .int).before args s = true := hs _ (by decide +kernel)
  have hle : (Cond.le (.length (.arg 0)) (.int 2560)).before args s = true := hs _ (by decide +kernel)
  have hlen : (Cond.isInt (.length (.arg 0))).before args s = true := hq _ (by decide +kernel)
  have hall : (Cond.all (.arg 0) (.isInt (.elem (.arg 0) (.index 0)))).before args s = true := hq _ (by decide +kernel)
  obtain ⟨b, xs, hb, hx⟩ := State.ints_of_pre rfl harr hlen hall
  have hsm : xs.length < 2 ^ 31 := hx.choose_spec.2.2.2
  have hev : (Term.length (.arg 0)).eval args s none [] s = some (.int xs.length.toInt32) := hx.length_eval hb
  have hv := Cond.le_ints hev (show (Term.int 2560).eval args s none [] s = some (.int 2560) from rfl)
  have hd : xs.length.toInt32 ≤ 2560 := by
    simpa [Cond.before, Cond.holds, hv] using hle
  have hN : xs.length ≤ 2560 := (Int32.ofNat_le_ofNat hsm (by decide)).mp (show Int32.ofNat xs.length ≤ Int32.ofNat 2560 from hd)
  exact ⟨b, xs, Cond.one_arg hc (show args[0]? = some (.ref b) from hb), hx, hN, h⟩
theorem lw_comes (l : Launch) (hflags : l.flags = flags0) : Comes l x (Jvm.Cond.code x code maxLocals ret :: tables_1) room_1 (fun tb e args s => Calls_1 tb e args s ∧ rest_1 tb e args s ∧ Pre_1 tb e args s)
    (fun _ _ args s o t => lw_Q args s o t) := by
  intro p e ha hc hk s m args below hf hfit hheap happ hpre
  obtain ⟨b, xs, hP⟩ := lw_pre_spec hpre.2.2 hpre.2.1
  obtain ⟨k, o, h1, h2, h3, hQ⟩ := lw_walk l hflags b xs p e ha hc hk s m args below hf ((Spec.applies_iff_loose hf).mp happ).1 hP trivial
  exact ⟨k, o, h1, h2, h3, hQ⟩
theorem lw_frame {s t : State} {o : Outcome} {args : Array Value} (h : Framed s o t [] 600000 7302250) :
    Framed s o t (fieldLocs frame_1_writes args s ++ arrayLocs frame_1_arrays args s ++ staticLocs frame_1_statics s) 600000 7302250 := h
theorem lw_limb (L : Cond) (hL : ∀ (args : Array Value) (s t : State), L.after args s (.returned (some (.int 1))) t = true) :
    ArmFor flags0 classFile x code maxLocals ret World_1 tables_1 room_1 Calls_1 rest_1 Pre_1
      (fun tb e a s o t => postC L tb e a s o t ∧ Framed s o t (fieldLocs frame_1_writes a s ++ arrayLocs frame_1_arrays a s ++ staticLocs frame_1_statics s) 600000 7302250) := by
  intro l hflags _ _ p e ha hc hk s m args below hf hfit hheap happ hpre
  obtain ⟨k, o, h1, h2, h3, rfl, hF⟩ := lw_comes l hflags p e ha hc hk s m args below hf hfit hheap happ hpre
  exact ⟨k, _, h1, h2, h3, hL args s _, lw_frame hF⟩
theorem i_vc : Claimed_1_1 ∧ Claimed_1_2 := ⟨lw_limb limb_1_1 (fun args s t => by simp [limb_1_1, Cond.after, Cond.holds, Cond.value]), lw_limb limb_1_2 (fun args s t => Cond.after_iff.mpr (by
  first | (rw [show limb_1_2 = Cond.eq .result (.int 1) from rfl, Cond.eq_ints (x := 1) (y := 1) rfl rfl]; simp; done) | (simp [limb_1_2, Cond.value, Term.eval]; done)))⟩

