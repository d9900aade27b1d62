/-! rows over numbers that are nI of a Nat, and over answers 'if P then 1 else 0' -/
theorem pw_eqN {a b : Nat} (ha : a < 2147483648) (hb : b < 2147483648) : nI a = nI b ↔ a = b := nI_eq ha hb
theorem pw_ltN {a b : Nat} (ha : a < 2147483648) (hb : b < 2147483648) : nI a < nI b ↔ a < b := nI_ltI ha hb
theorem pw_leN {a b : Nat} (ha : a < 2147483648) (hb : b < 2147483648) : nI a ≤ nI b ↔ a ≤ b := nI_leI ha hb
theorem pw_subN {a b : Nat} (h : b ≤ a) : nI a - nI b = nI (a - b) := pk_sub h
theorem pw_inP {p : Int32} {n : Nat} (hn : n < 2147483648) (h : 0 ≤ p ∧ p < nI n) : ∃ j : Nat, j < n ∧ p = nI j := by
  rcases pk_ix p (n := n) hn with h1 | h1 | ⟨j, h1, h2⟩
  · exact absurd h1 (Int32.not_lt.mpr h.1)
  · exact absurd h.2 (Int32.not_lt.mpr h1)
  · exact ⟨j, h1, h2⟩
theorem pw_inL {p : Int32} {n : Nat} (hn : n < 2147483647) (h : 0 ≤ p ∧ p ≤ nI n) : ∃ j : Nat, j ≤ n ∧ p = nI j := by
  obtain ⟨j, h1, h2⟩ := pw_inP (p := p) (n := n + 1) (by omega) ⟨h.1, by
    rw [Int32.lt_iff_toInt_lt, nI_toInt (by omega)]
    have := h.2
    rw [Int32.le_iff_toInt_le, nI_toInt (by omega)] at this
    omega⟩
  exact ⟨j, by omega, h2⟩
theorem pw_ge0 {n : Nat} (h : n < 2147483648) : (0 : Int32) ≤ nI n := nI_pos' h
section PWR
variable {p : Program} {l : Launch} {e : Env} {R : Room} {s : State} {m : MethodId} {args : Array Value} {below : List Frame} {meth : Method} {c : Code} {H : Heap} {locs : List Loc} {cells slots : Nat} {Q : State → Prop}
variable {cc : ByteArray} {pc : Nat} {ls : Array Slot} {rest : List Value} {D : va_G} {A : Nat → Prop} {a : Nat} {tys : List (ClassId × FieldType)} {ws : va_W} {H0 : Heap} {cl : List vw_C}
theorem pw_iald (hexec : p.tables.exec = Jvm.exec) (hb : c.code = cc) (hK : va_K D cl tys s) (hP : va_P D cl ws H) (q0 t0 : Nat) {cA : ClassId} {n : Nat} {f : Nat → Int32} (ha : ws[q0]? = some (a, .inl (cA, n, .inl f))) (ht : tys[t0]? = some (cA, .int)) (hn : n < 2147483648) {j : Nat} (hj : j < n) (hdg : decode cc pc = .ok (.iaload, 1))
    (kk : W p l e R s m args below meth c H locs cells slots Q (F0 m (pc + 1) ls (.int (f j) :: rest))) : W p l e R s m args below meth c H locs cells slots Q (F0 m pc ls (.int (nI j) :: .ref a :: rest)) :=
  va_iald hexec hb hK hP q0 t0 ha ht (vp_in_nI hj hn) hdg (by rw [nI_clamp (Nat.lt_trans hj hn)]; exact kk)
theorem pw_iast (hexec : p.tables.exec = Jvm.exec) (hb : c.code = cc) (hK : va_K D cl tys s) (hP : va_P D cl ws H) (hD : va_D A ws) (hS : va_S A H0 H locs) (q0 t0 : Nat) {cA : ClassId} {n : Nat} {f : Nat → Int32} (ha : ws[q0]? = some (a, .inl (cA, n, .inl f))) (ht : tys[t0]? = some (cA, .int)) (hn : n < 2147483648) {j : Nat} {x : Int32} (hj : j < n) (hdg : decode cc pc = .ok (.iastore, 1))
    (kk : ∀ (H1 : Heap) (locs1 : List Loc), va_P D cl (ws.set q0 (a, .inl (cA, n, .inl (upd f j x)))) H1 → va_D A (ws.set q0 (a, .inl (cA, n, .inl (upd f j x)))) → va_S A H0 H1 locs1 → W p l e R s m args below meth c H1 locs1 cells slots Q (F0 m (pc + 1) ls rest)) : W p l e R s m args below meth c H locs cells slots Q (F0 m pc ls (.int x :: .int (nI j) :: .ref a :: rest)) :=
  va_iast hexec hb hK hP hD hS q0 t0 ha ht (vp_in_nI hj hn) hdg (by rw [nI_clamp (Nat.lt_trans hj hn)]; exact kk)
theorem pw_aldq (hexec : p.tables.exec = Jvm.exec) (hb : c.code = cc) (hK : va_K D cl tys s) (hP : va_P D cl ws H) (q0 t0 : Nat) {cA : ClassId} {C : String} {n : Nat} {f : Nat → Nat} (ha : ws[q0]? = some (a, .inl (cA, n, .inr (.inr (.inr (.inr (fun i => some (f i)))))))) (ht : tys[t0]? = some (cA, .object C)) (hn : n < 2147483648) {j : Nat} (hj : j < n) (hdg : decode cc pc = .ok (.aaload, 1))
    (kk : W p l e R s m args below meth c H locs cells slots Q (F0 m (pc + 1) ls (.ref (f j) :: rest))) : W p l e R s m args below meth c H locs cells slots Q (F0 m pc ls (.int (nI j) :: .ref a :: rest)) :=
  va_aldq hexec hb hK hP q0 t0 ha ht (vp_in_nI hj hn) hdg (by rw [nI_clamp (Nat.lt_trans hj hn)]; exact kk)
theorem pw_iadd (hexec : p.tables.exec = Jvm.exec) (hb : c.code = cc) {x y : Nat} (hdg : decode cc pc = .ok (.iadd, 1))
    (k : W p l e R s m args below meth c H locs cells slots Q (F0 m (pc + 1) ls (.int (nI (x + y)) :: rest))) : W p l e R s m args below meth c H locs cells slots Q (F0 m pc ls (.int (nI y) :: .int (nI x) :: rest)) :=
  lv_iadd hexec hb hdg (by rw [nI_add]; exact k)
theorem pw_isub (hexec : p.tables.exec = Jvm.exec) (hb : c.code = cc) {x y : Nat} (h : y ≤ x) (hdg : decode cc pc = .ok (.isub, 1))
    (k : W p l e R s m args below meth c H locs cells slots Q (F0 m (pc + 1) ls (.int (nI (x - y)) :: rest))) : W p l e R s m args below meth c H locs cells slots Q (F0 m pc ls (.int (nI y) :: .int (nI x) :: rest)) :=
  lv_isub hexec hb hdg (by rw [pw_subN h]; exact k)
theorem pw_imul (hexec : p.tables.exec = Jvm.exec) (hb : c.code = cc) {x y : Nat} (hdg : decode cc pc = .ok (.imul, 1))
    (k : W p l e R s m args below meth c H locs cells slots Q (F0 m (pc + 1) ls (.int (nI (x * y)) :: rest))) : W p l e R s m args below meth c H locs cells slots Q (F0 m pc ls (.int (nI y) :: .int (nI x) :: rest)) :=
  lv_imul hexec hb hdg (by rw [pk_mul]; exact k)
theorem pw_icmp_eq (hexec : p.tables.exec = Jvm.exec) (hb : c.code = cc) {x y : Nat} {off : Int} {tgt : Nat} (hx : x < 2147483648) (hy : y < 2147483648) (hdg : decode cc pc = .ok (.if_icmp .eq off, 3)) (ht : (pc : Int) + off = (tgt : Int))
    (kt : x = y → W p l e R s m args below meth c H locs cells slots Q (F0 m tgt ls rest)) (kf : ¬ x = y → W p l e R s m args below meth c H locs cells slots Q (F0 m (pc + 3) ls rest)) : W p l e R s m args below meth c H locs cells slots Q (F0 m pc ls (.int (nI y) :: .int (nI x) :: rest)) :=
  lv_icmp_eq hexec hb hdg ht (fun h => kt ((pw_eqN hx hy).mp h)) (fun h => kf (fun q => h ((pw_eqN hx hy).mpr q)))
theorem pw_icmp_ne (hexec : p.tables.exec = Jvm.exec) (hb : c.code = cc) {x y : Nat} {off : Int} {tgt : Nat} (hx : x < 2147483648) (hy : y < 2147483648) (hdg : decode cc pc = .ok (.if_icmp .ne off, 3)) (ht : (pc : Int) + off = (tgt : Int))
    (kt : ¬ x = y → W p l e R s m args below meth c H locs cells slots Q (F0 m tgt ls rest)) (kf : x = y → W p l e R s m args below meth c H locs cells slots Q (F0 m (pc + 3) ls rest)) : W p l e R s m args below meth c H locs cells slots Q (F0 m pc ls (.int (nI y) :: .int (nI x) :: rest)) :=
  lv_icmp_ne hexec hb hdg ht (fun h => kt (fun q => h ((pw_eqN hx hy).mpr q))) (fun h => kf ((pw_eqN hx hy).mp h))
theorem pw_icmp_lt (hexec : p.tables.exec = Jvm.exec) (hb : c.code = cc) {x y : Nat} {off : Int} {tgt : Nat} (hx : x < 2147483648) (hy : y < 2147483648) (hdg : decode cc pc = .ok (.if_icmp .lt off, 3)) (ht : (pc : Int) + off = (tgt : Int))
    (kt : x < y → W p l e R s m args below meth c H locs cells slots Q (F0 m tgt ls rest)) (kf : y ≤ x → W p l e R s m args below meth c H locs cells slots Q (F0 m (pc + 3) ls rest)) : W p l e R s m args below meth c H locs cells slots Q (F0 m pc ls (.int (nI y) :: .int (nI x) :: rest)) :=
  lv_icmp_lt hexec hb hdg ht (fun h => kt ((pw_ltN hx hy).mp h)) (fun h => kf (Nat.not_lt.mp (fun q => h ((pw_ltN hx hy).mpr q))))
theorem pw_icmp_ge (hexec : p.tables.exec = Jvm.exec) (hb : c.code = cc) {x y : Nat} {off : Int} {tgt : Nat} (hx : x < 2147483648) (hy : y < 2147483648) (hdg : decode cc pc = .ok (.if_icmp .ge off, 3)) (ht : (pc : Int) + off = (tgt : Int))
    (kt : y ≤ x → W p l e R s m args below meth c H locs cells slots Q (F0 m tgt ls rest)) (kf : x < y → W p l e R s m args below meth c H locs cells slots Q (F0 m (pc + 3) ls rest)) : W p l e R s m args below meth c H locs cells slots Q (F0 m pc ls (.int (nI y) :: .int (nI x) :: rest)) :=
  lv_icmp_ge hexec hb hdg ht (fun h => kt ((pw_leN hy hx).mp h)) (fun h => kf (Nat.not_le.mp (fun q => h ((pw_leN hy hx).mpr q))))
theorem pw_icmp_gt (hexec : p.tables.exec = Jvm.exec) (hb : c.code = cc) {x y : Nat} {off : Int} {tgt : Nat} (hx : x < 2147483648) (hy : y < 2147483648) (hdg : decode cc pc = .ok (.if_icmp .gt off, 3)) (ht : (pc : Int) + off = (tgt : Int))
    (kt : y < x → W p l e R s m args below meth c H locs cells slots Q (F0 m tgt ls rest)) (kf : x ≤ y → W p l e R s m args below meth c H locs cells slots Q (F0 m (pc + 3) ls rest)) : W p l e R s m args below meth c H locs cells slots Q (F0 m pc ls (.int (nI y) :: .int (nI x) :: rest)) :=
  lv_icmp_gt hexec hb hdg ht (fun h => kt ((pw_ltN hy hx).mp h)) (fun h => kf (Nat.not_lt.mp (fun q => h ((pw_ltN hy hx).mpr q))))
theorem pw_icmp_le (hexec : p.tables.exec = Jvm.exec) (hb : c.code = cc) {x y : Nat} {off : Int} {tgt : Nat} (hx : x < 2147483648) (hy : y < 2147483648) (hdg : decode cc pc = .ok (.if_icmp .le off, 3)) (ht : (pc : Int) + off = (tgt : Int))
    (kt : x ≤ y → W p l e R s m args below meth c H locs cells slots Q (F0 m tgt ls rest)) (kf : y < x → W p l e R s m args below meth c H locs cells slots Q (F0 m (pc + 3) ls rest)) : W p l e R s m args below meth c H locs cells slots Q (F0 m pc ls (.int (nI y) :: .int (nI x) :: rest)) :=
  lv_icmp_le hexec hb hdg ht (fun h => kt ((pw_leN hx hy).mp h)) (fun h => kf (Nat.not_le.mp (fun q => h ((pw_leN hx hy).mpr q))))
theorem pw_if_eq (hexec : p.tables.exec = Jvm.exec) (hb : c.code = cc) {x : Nat} {off : Int} {tgt : Nat} (hx : x < 2147483648) (hdg : decode cc pc = .ok (.ifCond .eq off, 3)) (ht : (pc : Int) + off = (tgt : Int))
    (kt : x = 0 → W p l e R s m args below meth c H locs cells slots Q (F0 m tgt ls rest)) (kf : ¬ x = 0 → W p l e R s m args below meth c H locs cells slots Q (F0 m (pc + 3) ls rest)) : W p l e R s m args below meth c H locs cells slots Q (F0 m pc ls (.int (nI x) :: rest)) :=
  lv_if_eq hexec hb hdg ht (fun h => kt ((pw_eqN hx (by decide)).mp (h.trans nI_0.symm))) (fun h => kf (fun q => h (by rw [q]; exact nI_0)))
theorem pw_if_ne (hexec : p.tables.exec = Jvm.exec) (hb : c.code = cc) {x : Nat} {off : Int} {tgt : Nat} (hx : x < 2147483648) (hdg : decode cc pc = .ok (.ifCond .ne off, 3)) (ht : (pc : Int) + off = (tgt : Int))
    (kt : ¬ x = 0 → W p l e R s m args below meth c H locs cells slots Q (F0 m tgt ls rest)) (kf : x = 0 → W p l e R s m args below meth c H locs cells slots Q (F0 m (pc + 3) ls rest)) : W p l e R s m args below meth c H locs cells slots Q (F0 m pc ls (.int (nI x) :: rest)) :=
  lv_if_ne hexec hb hdg ht (fun h => kt (fun q => h (by rw [q]; exact nI_0))) (fun h => kf ((pw_eqN hx (by decide)).mp (h.trans nI_0.symm)))
theorem pw_if_gt (hexec : p.tables.exec = Jvm.exec) (hb : c.code = cc) {x : Nat} {off : Int} {tgt : Nat} (hx : x < 2147483648) (hdg : decode cc pc = .ok (.ifCond .gt off, 3)) (ht : (pc : Int) + off = (tgt : Int))
    (kt : 0 < x → W p l e R s m args below meth c H locs cells slots Q (F0 m tgt ls rest)) (kf : x = 0 → W p l e R s m args below meth c H locs cells slots Q (F0 m (pc + 3) ls rest)) : W p l e R s m args below meth c H locs cells slots Q (F0 m pc ls (.int (nI x) :: rest)) :=
  lv_if_gt hexec hb hdg ht (fun h => kt ((pw_ltN (by decide) hx).mp (by rw [nI_0]; exact h))) (fun h => kf (Nat.eq_zero_of_not_pos (fun q => h (by rw [← nI_0]; exact (pw_ltN (by decide) hx).mpr q))))
theorem pw_if_le (hexec : p.tables.exec = Jvm.exec) (hb : c.code = cc) {x : Nat} {off : Int} {tgt : Nat} (hx : x < 2147483648) (hdg : decode cc pc = .ok (.ifCond .le off, 3)) (ht : (pc : Int) + off = (tgt : Int))
    (kt : x = 0 → W p l e R s m args below meth c H locs cells slots Q (F0 m tgt ls rest)) (kf : 0 < x → W p l e R s m args below meth c H locs cells slots Q (F0 m (pc + 3) ls rest)) : W p l e R s m args below meth c H locs cells slots Q (F0 m pc ls (.int (nI x) :: rest)) :=
  lv_if_le hexec hb hdg ht (fun h => kt (Nat.le_zero.mp ((pw_leN hx (by decide)).mp (by rw [nI_0]; exact h)))) (fun h => kf (Nat.pos_of_ne_zero (fun q => h (by rw [q, nI_0]; exact Int32.le_refl _))))
theorem pw_if_lt (hexec : p.tables.exec = Jvm.exec) (hb : c.code = cc) {x : Nat} {off : Int} {tgt : Nat} (hx : x < 2147483648) (hdg : decode cc pc = .ok (.ifCond .lt off, 3)) (ht : (pc : Int) + off = (tgt : Int))
    (kf : W p l e R s m args below meth c H locs cells slots Q (F0 m (pc + 3) ls rest)) : W p l e R s m args below meth c H locs cells slots Q (F0 m pc ls (.int (nI x) :: rest)) :=
  lv_if_lt hexec hb hdg ht (fun h => absurd h (nI_pos hx)) (fun _ => kf)
theorem pw_if_ge (hexec : p.tables.exec = Jvm.exec) (hb : c.code = cc) {x : Nat} {off : Int} {tgt : Nat} (hx : x < 2147483648) (hdg : decode cc pc = .ok (.ifCond .ge off, 3)) (ht : (pc : Int) + off = (tgt : Int))
    (kt : W p l e R s m args below meth c H locs cells slots Q (F0 m tgt ls rest)) : W p l e R s m args below meth c H locs cells slots Q (F0 m pc ls (.int (nI x) :: rest)) :=
  lv_if_ge hexec hb hdg ht (fun _ => kt) (fun h => absurd (nI_pos' hx) h)
theorem pw_ifB_eq (hexec : p.tables.exec = Jvm.exec) (hb : c.code = cc) {P : Prop} [Decidable P] {off : Int} {tgt : Nat} (hdg : decode cc pc = .ok (.ifCond .eq off, 3)) (ht : (pc : Int) + off = (tgt : Int))
    (kt : ¬ P → W p l e R s m args below meth c H locs cells slots Q (F0 m tgt ls rest)) (kf : P → W p l e R s m args below meth c H locs cells slots Q (F0 m (pc + 3) ls rest)) : W p l e R s m args below meth c H locs cells slots Q (F0 m pc ls (.int (if P then 1 else 0) :: rest)) := by
  by_cases h : P
  · rw [if_pos h]; exact lv_if_eq hexec hb hdg ht (fun h => absurd h (by decide)) (fun _ => kf h)
  · rw [if_neg h]; exact lv_if_eq hexec hb hdg ht (fun _ => kt h) (fun h => absurd rfl h)
theorem pw_ifB_ne (hexec : p.tables.exec = Jvm.exec) (hb : c.code = cc) {P : Prop} [Decidable P] {off : Int} {tgt : Nat} (hdg : decode cc pc = .ok (.ifCond .ne off, 3)) (ht : (pc : Int) + off = (tgt : Int))
    (kt : P → W p l e R s m args below meth c H locs cells slots Q (F0 m tgt ls rest)) (kf : ¬ P → W p l e R s m args below meth c H locs cells slots Q (F0 m (pc + 3) ls rest)) : W p l e R s m args below meth c H locs cells slots Q (F0 m pc ls (.int (if P then 1 else 0) :: rest)) := by
  by_cases h : P
  · rw [if_pos h]; exact lv_if_ne hexec hb hdg ht (fun _ => kt h) (fun h => absurd h (by decide))
  · rw [if_neg h]; exact lv_if_ne hexec hb hdg ht (fun h => absurd rfl h) (fun _ => kf h)
end PWR
theorem pw_inc (a k : Nat) : nI a + Int32.ofInt (k : Int) = nI (a + k) := nI_add a k
theorem pw_n1 : nI 1 = 1 := by decide
theorem pw_dec (x : Int32) : x + Int32.ofInt (-1) = x - 1 := by
  rw [show Int32.ofInt (-1) = -1 from rfl, Int32.sub_eq_add_neg]
theorem pw_m1lt {k p : Nat} (hk : k < 2147483648) (hp : p < 2147483648) : nI k - 1 < nI p ↔ k < p + 1 := by
  rw [Int32.lt_iff_toInt_lt, nI_toInt hp]
  cases k with
  | zero => rw [nI_0]; simp; omega
  | succ k => rw [nI_pred, nI_toInt (by omega)]; omega
theorem pw_m1neg {k : Nat} (hk : k < 2147483648) : nI k - 1 < 0 ↔ k = 0 := by
  rw [← nI_0, pw_m1lt hk (by decide)]; omega
theorem pw_min {a b : Nat} (ha : a < 2147483648) (hb : b < 2147483648) : (if nI b < nI a then nI b else nI a) = nI (min a b) := by
  by_cases h : b < a
  · rw [if_pos ((pw_ltN hb ha).mpr h), Nat.min_eq_right (by omega)]
  · rw [if_neg (fun q => h ((pw_ltN hb ha).mp q)), Nat.min_eq_left (by omega)]
theorem pw_top {p : Program} {l : Launch} {e : Env} {R : Room} {s : State} {m : MethodId} {args : Array Value} {below : List Frame} {meth : Method} {c : Code} {H : Heap} {locs : List Loc} {cells slots : Nat} {Q : State → Prop} {pc : Nat} {ls : Array Slot} {rest : List Value} {x y : Int32} (h : x = y)
    (k : W p l e R s m args below meth c H locs cells slots Q (F0 m pc ls (.int y :: rest))) : W p l e R s m args below meth c H locs cells slots Q (F0 m pc ls (.int x :: rest)) := by rw [h]; exact k
/-- a prefix of g laid into f from q on -/
def putF (f : Nat → Int32) (q : Nat) (g : Nat → Int32) (k : Nat) : Nat → Int32 := fun j => if q ≤ j ∧ j < q + k then g (j - q) else f j
theorem putF_0 (f : Nat → Int32) (q : Nat) (g : Nat → Int32) : putF f q g 0 = f := by funext j; unfold putF; rw [if_neg (by omega)]
theorem putF_s (f : Nat → Int32) (q : Nat) (g : Nat → Int32) (i : Nat) : upd (putF f q g i) (q + i) (g i) = putF f q g (i + 1) := by
  funext j; unfold putF upd; simp only
  by_cases h : j = q + i
  · subst h; rw [if_pos rfl, if_pos (by omega), show q + i - q = i by omega]
  · rw [if_neg h]
    by_cases h2 : q ≤ j ∧ j < q + i
    · rw [if_pos h2, if_pos (by omega)]
    · rw [if_neg h2, if_neg (by omega)]
/-- room for k things made at q -/
def opn (f : Nat → Int32) (q k n : Nat) : Nat → Int32 := fun j => if q + k ≤ j ∧ j < n + k then f (j - k) else f j
theorem opn_e (f : Nat → Int32) (q k n : Nat) (h : n ≤ q) : opn f q k n = f := by funext j; unfold opn; rw [if_neg (by omega)]
theorem opn_s (f : Nat → Int32) (q r k n : Nat) (h : q + (r + 1) ≤ n) (hk : 0 < k ∨ True) : upd (opn f (q + (r + 1)) k n) (q + r + k) (opn f (q + (r + 1)) k n (q + r)) = opn f (q + r) k n := by
  funext j; unfold opn upd; simp only
  by_cases h1 : j = q + r + k
  · subst h1; rw [if_pos rfl, if_neg (by omega), if_pos (by omega), Nat.add_sub_cancel]
  · rw [if_neg h1]
    by_cases h2 : q + (r + 1) + k ≤ j ∧ j < n + k
    · rw [if_pos h2, if_pos (by omega)]
    · rw [if_neg h2, if_neg (by omega)]
/-- the thing at q taken out, the ones behind it moved up to (not with) i -/
def clsF (f : Nat → Int32) (q i : Nat) : Nat → Int32 := fun j => if q ≤ j ∧ j + 1 < i then f (j + 1) else f j
theorem clsF_0 (f : Nat → Int32) (q i : Nat) (h : i ≤ q + 1) : clsF f q i = f := by funext j; unfold clsF; rw [if_neg (by omega)]
theorem clsF_s (f : Nat → Int32) (q i : Nat) (h : q < i) : upd (clsF f q i) (i - 1) (clsF f q i i) = clsF f q (i + 1) := by
  funext j; unfold clsF upd; simp only
  by_cases h1 : j = i - 1
  · subst h1; rw [if_pos rfl, if_neg (by omega), if_pos (by omega), show i - 1 + 1 = i by omega]
  · rw [if_neg h1]
    by_cases h2 : q ≤ j ∧ j + 1 < i
    · rw [if_pos h2, if_pos (by omega)]
    · rw [if_neg h2, if_neg (by omega)]
def remF (x d : Int32) : Int32 := x - x / d * d
/-- the place of the first thing of a name, or of the last one -/
def plc (f : Nat → Int32) (nm la : Int32) : Nat → Int32
  | 0 => -1
  | k + 1 => if remF (f k) (nI 10) = nm ∧ (¬ la = 0 ∨ plc f nm la k = -1) then nI k else plc f nm la k
theorem plc_stop {f : Nat → Int32} {nm la : Int32} (hl : la = 0) {i : Nat} (h : ¬ plc f nm la i = -1) : ∀ r, plc f nm la (i + r) = plc f nm la i
  | 0 => rfl
  | r + 1 => by
    have ih := plc_stop hl h r
    rw [← Nat.add_assoc]
    show (if _ then _ else _) = _
    rw [if_neg (fun q => q.2.elim (fun z => z hl) (fun z => h (by rw [← ih]; exact z))), ih]
/-- a row's number -/
def smF (f : Nat → Int32) : Nat → Int32
  | 0 => nI 7
  | k + 1 => remF (nI 31 * smF f k + f k) 1000003
/-- turned round up to i at both ends -/
def turI (f : Nat → Int32) (n i : Nat) : Nat → Int32 := fun j => if j < n ∧ (j < i ∨ n - 1 - j < i) then f (n - 1 - j) else f j
def turF (f : Nat → Int32) (n : Nat) : Nat → Int32 := fun j => if j < n then f (n - 1 - j) else f j
theorem turI_0 (f : Nat → Int32) (n : Nat) : turI f n 0 = f := by funext j; unfold turI; rw [if_neg (by omega)]
theorem turI_e (f : Nat → Int32) (n : Nat) : turI f n (n / 2) = turF f n := by
  funext j; unfold turI turF
  by_cases h : j < n
  · rw [if_pos h]
    by_cases h2 : j < n / 2 ∨ n - 1 - j < n / 2
    · rw [if_pos ⟨h, h2⟩]
    · rw [if_neg (fun q => h2 q.2), show n - 1 - j = j by omega]
  · rw [if_neg h, if_neg (fun q => h q.1)]
theorem turI_s (f : Nat → Int32) (n i : Nat) (h : i < n / 2) : upd (upd (turI f n i) (n - 1 - i) (turI f n i i)) i (turI f n i (n - 1 - i)) = turI f n (i + 1) := by
  funext j; unfold turI upd; simp only
  by_cases h1 : j = i
  · subst h1; rw [if_pos rfl, if_neg (by omega), if_pos (by omega)]
  · rw [if_neg h1]
    by_cases h2 : j = n - 1 - i
    · subst h2; rw [if_pos rfl, if_neg (by omega), if_pos (by omega), show n - 1 - (n - 1 - i) = i by omega]
    · rw [if_neg h2]
      by_cases h3 : j < n ∧ (j < i ∨ n - 1 - j < i)
      · rw [if_pos h3, if_pos (by omega)]
      · rw [if_neg h3, if_neg (by omega)]
/-- of each name the first thing alone: how many are kept, the names met (a bit each), the row -/
def prF (f : Nat → Int32) : Nat → Nat × Int32 × (Nat → Int32)
  | 0 => (0, nI 0, f)
  | i + 1 => if ((prF f i).2.1 &&& (nI 1 <<< (remF (f i) (nI 10) &&& 31))) = 0 then ((prF f i).1 + 1, (prF f i).2.1 ||| (nI 1 <<< (remF (f i) (nI 10) &&& 31)), upd (prF f i).2.2 (prF f i).1 (f i)) else prF f i
theorem prF_le (f : Nat → Int32) : ∀ i, (prF f i).1 ≤ i ∧ ∀ j, i ≤ j → (prF f i).2.2 j = f j
  | 0 => ⟨Nat.le_refl 0, fun _ _ => rfl⟩
  | i + 1 => by
    obtain ⟨h1, h2⟩ := prF_le f i
    unfold prF
    split
    · refine ⟨by show _ + 1 ≤ _; omega, fun j hj => ?_⟩
      show upd _ _ _ j = _
      unfold upd
      rw [if_neg (by omega), h2 j (by omega)]
    · exact ⟨by omega, fun j hj => h2 j (by omega)⟩
theorem putF_s0 (f g : Nat → Int32) (i : Nat) : upd (putF f 0 g i) i (g i) = putF f 0 g (i + 1) := by
  have h := putF_s f 0 g i
  rw [Nat.zero_add] at h
  exact h
def putG (F : Nat → Int32) (p : Nat) (g : Nat → Int32) (lo i : Nat) : Nat → Int32 := fun j => if p + lo ≤ j ∧ j < p + i then g (j - p) else F j
theorem putG_0 (F : Nat → Int32) (p : Nat) (g : Nat → Int32) (lo : Nat) : putG F p g lo lo = F := by funext j; unfold putG; rw [if_neg (by omega)]
theorem putG_s (F : Nat → Int32) (p : Nat) (g : Nat → Int32) (lo i : Nat) (h : lo ≤ i) : upd (putG F p g lo i) (p + i) (g i) = putG F p g lo (i + 1) := by
  funext j; unfold putG upd; simp only
  by_cases h1 : j = p + i
  · subst h1; rw [if_pos rfl, if_pos (by omega), show p + i - p = i by omega]
  · rw [if_neg h1]
    by_cases h2 : p + lo ≤ j ∧ j < p + i
    · rw [if_pos h2, if_pos (by omega)]
    · rw [if_neg h2, if_neg (by omega)]
def w2F (F f g : Nat → Int32) (p k : Nat) : Nat → Int32 := fun j => if 2 * k ≤ j ∧ j < 2 * p then (if j % 2 = 0 then f (j / 2) else g (j / 2)) else F j
theorem w2F_e (F f g : Nat → Int32) (p : Nat) : w2F F f g p p = F := by funext j; unfold w2F; rw [if_neg (by omega)]
theorem w2F_s (F f g : Nat → Int32) (p k : Nat) (h : k < p) (hF : F k = f k) : upd (upd (w2F F f g p (k + 1)) (2 * k + 1) (g k)) (2 * k) (upd (w2F F f g p (k + 1)) (2 * k + 1) (g k) k) = w2F F f g p k := by
  have e : upd (w2F F f g p (k + 1)) (2 * k + 1) (g k) k = f k := by
    unfold upd w2F
    rw [if_neg (by omega), if_neg (by omega), hF]
  rw [e]
  funext j; unfold w2F upd; simp only
  by_cases h1 : j = 2 * k
  · subst h1; rw [if_pos rfl, if_pos (by omega), if_pos (by omega), show 2 * k / 2 = k by omega]
  · rw [if_neg h1]
    by_cases h2 : j = 2 * k + 1
    · subst h2; rw [if_pos rfl, if_pos (by omega), if_neg (by omega), show (2 * k + 1) / 2 = k by omega]
    · rw [if_neg h2]
      by_cases h3 : 2 * (k + 1) ≤ j ∧ j < 2 * p
      · rw [if_pos h3, if_pos (show 2 * k ≤ j ∧ j < 2 * p by omega)]
      · rw [if_neg h3, if_neg (by omega)]
def wvF (f g : Nat → Int32) (n m : Nat) : Nat → Int32 := w2F (putG (opn f (min n m) m n) (min n m) g (min n m) m) f g (min n m) 0
theorem pw_ifnull {p : Program} {l : Launch} {e : Env} {R : Room} {s : State} {m : MethodId} {args : Array Value} {below : List Frame} {meth : Method} {c : Code} {H : Heap} {locs : List Loc} {cells slots : Nat} {Q : State → Prop} {pc : Nat} {ls : Array Slot} {rest : List Value} {cc : ByteArray} (hexec : p.tables.exec = Jvm.exec) (hb : c.code = cc) {r : Option Nat} {off : Int} {tgt : Nat} (hdg : decode cc pc = .ok (.ifnull off, 3)) (ht : (pc : Int) + off = (tgt : Int))
    (kt : r = none → W p l e R s m args below meth c H locs cells slots Q (F0 m tgt ls rest)) (kf : ¬ r = none → W p l e R s m args below meth c H locs cells slots Q (F0 m (pc + 3) ls rest)) : W p l e R s m args below meth c H locs cells slots Q (F0 m pc ls (va_rf r :: rest)) := by
  cases r with
  | none => exact lv_ifnullN hexec hb hdg ht (kt rfl)
  | some x => exact lv_ifnull hexec hb hdg (kf (fun h => by cases h))
theorem pw_nm1 {j : Nat} (h : j < 2147483648) : ¬ nI j = -1 := fun q => absurd (pw_ge0 h) (by rw [q]; decide)
def plF (la : Int32) (n : Nat) : Nat := if la = 0 then 0 else n
def laF (hw : Nat) : Int32 := if hw = 2 then nI 1 else nI 0
