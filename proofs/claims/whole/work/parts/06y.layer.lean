/-! the layer: what is known of the tables, contracts of methods that only read (pw_Mp) and that write (pw_Mm), their starts, ends and calls -/
/-- the words on nest mates' members and on arrays of own objects -/
def pw_NW (U : State) : Prop :=
  va_Nw (.fieldLinkNest "Pegrow" 34 "Pegrow$Row" "length" "I" "Pegrow") U ∧ va_Nw (.fieldLinkNest "Pegrow" 119 "Pegrow$Peg" "row" "LPegrow$Row;" "Pegrow") U ∧ va_Nw (.fieldLinkNest "Pegrow" 127 "Pegrow$Peg" "ahead" "I" "Pegrow") U ∧ va_Nw (.fieldLinkNest "Pegrow" 134 "Pegrow$Peg" "hand" "I" "Pegrow") U ∧ va_Nw (.fieldLinkNest "Pegrow" 165 "Pegrow$Peg" "held" "I" "Pegrow") U ∧ va_Nw (.fieldLinkNest "Pegrow" 161 "Pegrow$Peg" "missed" "Z" "Pegrow") U ∧ va_Nw (.fieldLinkNest "Pegrow$Peg" 22 "Pegrow$Row" "changes" "I" "Pegrow") U ∧ va_Nw (.methodLinkNest "Pegrow" 21 yX1_init "Pegrow") U ∧ va_Nw (.methodLinkNest "Pegrow" 22 yX0_init "Pegrow") U ∧ va_AO "Pegrow$Row" U ∧ va_AO "Pegrow$Peg" U
theorem pw_NW.moved {u U : State} (hW : u.WarmedH U.vm) (h : pw_NW u) : pw_NW U := by
  obtain ⟨h1, h2, h3, h4, h5, h6, h7, h8, h9, h10, h11⟩ := h
  exact ⟨va_Nw.warmF hW h1, va_Nw.warmF hW h2, va_Nw.warmF hW h3, va_Nw.warmF hW h4, va_Nw.warmF hW h5, va_Nw.warmF hW h6, va_Nw.warmF hW h7, va_Nw.warmM hW h8, va_Nw.warmM hW h9, va_AO.moved hW.alike h10, va_AO.moved hW.alike h11⟩
theorem pw_NW.same {u U : State} (hv : u.vm = U.vm) (h : pw_NW u) : pw_NW U := by
  obtain ⟨h1, h2, h3, h4, h5, h6, h7, h8, h9, h10, h11⟩ := h
  refine ⟨va_Nw.same rfl hv h1, va_Nw.same rfl hv h2, va_Nw.same rfl hv h3, va_Nw.same rfl hv h4, va_Nw.same rfl hv h5, va_Nw.same rfl hv h6, va_Nw.same rfl hv h7, va_Nw.same rfl hv h8, va_Nw.same rfl hv h9, va_AO.moved ?_ h10, va_AO.moved ?_ h11⟩ <;> (rw [hv]; exact Vm.Alike.refl _)
abbrev pw_tys (cI cP cR : ClassId) : List (ClassId × FieldType) := [(cI, .int), (cP, .object "Pegrow$Peg"), (cR, .object "Pegrow$Row")]
def pw_K (D : va_G) (cI cP cR : ClassId) (U : State) : Prop := va_K D vwCl (pw_tys cI cP cR) U ∧ pw_NW U
theorem pw_K.moved {D : va_G} {cI cP cR : ClassId} {u U : State} (hW : u.WarmedH U.vm) (h : pw_K D cI cP cR u) : pw_K D cI cP cR U := ⟨va_K.moved hW.alike h.1, h.2.moved hW⟩
theorem pw_K.calling {D : va_G} {cI cP cR : ClassId} {U : State} {g : JFrame} {mk : MethodId} {a : Array Value} (h : pw_K D cI cP cR U) : pw_K D cI cP cR (U.calling g mk a) :=
  ⟨va_K.moved (u := U) (U := U.calling g mk a) (Vm.Alike.refl U.vm) h.1, h.2.same rfl⟩
/-- the start of a method -/
def pw_Pc (D : va_G) (cI cP cR : ClassId) (as : List Value) (W0 : va_W) (sz : Nat) : Array Value → State → Prop :=
  va_Pc as (fun U => U.heap.size = sz ∧ va_P D vwCl W0 U.heap ∧ pw_K D cI cP cR U ∧ va_D (fun _ => True) W0)
/-- the end of a method that only reads -/
def pw_Qp (v : Value) : Array Value → State → Outcome → State → Prop := fun _ st oc t => oc = .returned (some v) ∧ t.heap = st.heap
/-- the end of a method that writes -/
def pw_Qm (post : Option Value → va_W → Prop) (D : va_G) (A : Nat → Prop) : Array Value → State → Outcome → State → Prop := fun _ st oc t =>
  (∃ (v : Option Value) (w : va_W), oc = .returned v ∧ post v w ∧ va_P D vwCl w t.heap ∧ va_D A w) ∧ va_F A st t
abbrev pw_Mp (l : Launch) (y : MethodName) (ws : List Cond) (rm : Room) (D : va_G) (cI cP cR : ClassId) (as : List Value) (W0 : va_W) (v : Value) : Prop :=
  ∀ sz : Nat, Met l y ws rm (pw_Pc D cI cP cR as W0 sz) (pw_Qp v) 0 0 (fun _ => False)
abbrev pw_Mm (l : Launch) (y : MethodName) (ws : List Cond) (rm : Room) (D : va_G) (cI cP cR : ClassId) (as : List Value) (W0 : va_W) (post : Option Value → va_W → Prop) : Prop :=
  ∀ sz : Nat, Met l y ws rm (pw_Pc D cI cP cR as W0 sz) (pw_Qm post D (va_A W0 sz)) 0 0 (va_A W0 sz)
/-- what a walk has at hand -/
def pw_E (p : Program) (s : State) (m : MethodId) (args : Array Value) (meth : Method) (c : Code) (cc : ByteArray) (ret : Option FieldType) (maxL : Nat) (own : String) (ws : List Cond) : Prop :=
  p.tables.exec = Jvm.exec ∧ c.code = cc ∧ meth.sig.returnType = ret ∧ c.maxLocals = maxL ∧ s.vm.findClass own = some m.cls ∧ (∀ w ∈ ws, w.before args s = true) ∧ meth.locks = false
theorem pw_ofm {l : Launch} {y : MethodName} {ws ws' : List Cond} {rm : Room} {D : va_G} {cI cP cR : ClassId} {as : List Value} {W0 : va_W} {post : Option Value → va_W → Prop} {cc : ByteArray} {maxL : Nat} {ret : Option FieldType} {own : String}
    (hy : plainName y.cls = true) (hw : ws = Cond.code y cc maxL ret :: ws') (hyc : y.cls = own) (hfit : (lg_sl as).length ≤ maxL)
    (body : ∀ (p : Program) (e : Env) (s : State) (m : MethodId) (below : List Frame) (meth : Method) (c : Code) (A : Nat → Prop), pw_E p s m as.toArray meth c cc ret maxL own ws → pw_K D cI cP cR s → va_P D vwCl W0 s.heap → va_D A W0 → (∀ q, s.heap.size ≤ q → A q) → va_S A s.heap s.heap [] → ∀ ls : Array Slot, lv_has ls maxL (lv_args 0 as) →
      W p l e rm s m as.toArray below meth c s.heap [] 0 0 (MQ below (pw_Qm post D A) as.toArray s 0 0 A) (F0 m 0 ls [])) : pw_Mm l y ws rm D cI cP cR as W0 post := by
  intro sz
  refine Met.ofW (cc := cc) (maxL := maxL) (ret := ret) hy hw ?_
  intro p e s m args below meth c s₁ B hml hv
  obtain ⟨rfl, hsz, hP, hK, hD0⟩ := hv
  have hts := atoms_spec (ws := ws) B.pre
  have hown : s.vm.findClass own = some m.cls := hyc ▸ findClass_of_methodNamed B.named
  subst hsz
  have hl := lv_entry as (n := maxL) hfit
  rw [lg_entry_eq]
  exact body p e s m below meth c _ ⟨B.exec, B.bytes, B.returns, hml, hown, hts, B.notSynchronized⟩ hK hP (hD0.self (sz := s.heap.size)) (fun q h => Or.inr h) va_S.rf _ hl
theorem pw_ofp {l : Launch} {y : MethodName} {ws ws' : List Cond} {rm : Room} {D : va_G} {cI cP cR : ClassId} {as : List Value} {W0 : va_W} {v : Value} {cc : ByteArray} {maxL : Nat} {ret : Option FieldType} {own : String}
    (hy : plainName y.cls = true) (hw : ws = Cond.code y cc maxL ret :: ws') (hyc : y.cls = own) (hfit : (lg_sl as).length ≤ maxL)
    (body : ∀ (p : Program) (e : Env) (s : State) (m : MethodId) (below : List Frame) (meth : Method) (c : Code), pw_E p s m as.toArray meth c cc ret maxL own ws → pw_K D cI cP cR s → va_P D vwCl W0 s.heap → va_D (fun _ => True) W0 → ∀ ls : Array Slot, lv_has ls maxL (lv_args 0 as) →
      W p l e rm s m as.toArray below meth c s.heap [] 0 0 (MQ below (pw_Qp v) as.toArray s 0 0 (fun _ => False)) (F0 m 0 ls [])) : pw_Mp l y ws rm D cI cP cR as W0 v := by
  intro sz
  refine Met.ofW (cc := cc) (maxL := maxL) (ret := ret) hy hw ?_
  intro p e s m args below meth c s₁ B hml hv
  obtain ⟨rfl, hsz, hP, hK, hD0⟩ := hv
  have hts := atoms_spec (ws := ws) B.pre
  have hown : s.vm.findClass own = some m.cls := hyc ▸ findClass_of_methodNamed B.named
  subst hsz
  have hl := lv_entry as (n := maxL) hfit
  rw [lg_entry_eq]
  exact body p e s m below meth c ⟨B.exec, B.bytes, B.returns, hml, hown, hts, B.notSynchronized⟩ hK hP hD0 _ hl
section PWL
variable {p : Program} {l : Launch} {e : Env} {R : Room} {s : State} {m : MethodId} {args : Array Value} {below : List Frame} {meth : Method} {c : Code} {H : Heap} {locs : List Loc} {cells slots : Nat} {Q : State → Prop}
variable {cc : ByteArray} {pc : Nat} {ls : Array Slot} {rest st0 : List Value} {D : va_G} {cI cP cR : ClassId} {A : Nat → Prop} {y : MethodName} {bytes : ByteArray} {maxL nL n index : Nat} {ret : Option FieldType} {ws Ts : List Cond} {rm : Room} {own C : String} {b : Nat} {As : List Value}
variable {w wc wr w1 : va_W} {v : Value} {post : Option Value → va_W → Prop}
theorem pw_iret {x : Int32} {ty : FieldType} (hx : p.tables.exec = Jvm.exec) (hb : c.code = cc) (hr : meth.sig.returnType = some ty) (hn : narrow ty (.int x) = .int x) (hlocks : meth.locks = false) (hdg : decode cc pc = .ok (.ireturn, 1)) (hS : va_S A s.heap H locs) (hP : va_P D vwCl w H) (hD : va_D A w) (hq : post (some (.int x)) w) :
    W p l e R s m args below meth c H locs 0 0 (MQ below (pw_Qm post D A) args s 0 0 A) (F0 m pc ls [.int x]) :=
  W.zret hx hb hr hn (fun t ht _ => ⟨⟨_, w, rfl, hq, by rw [ht]; exact hP, hD⟩, hS.F ht⟩) hS.2.2 hdg hlocks
theorem pw_vret (hx : p.tables.exec = Jvm.exec) (hb : c.code = cc) (hr : meth.sig.returnType = none) (hlocks : meth.locks = false) (hdg : decode cc pc = .ok (.return_, 1)) (hS : va_S A s.heap H locs) (hP : va_P D vwCl w H) (hD : va_D A w) (hq : post none w) :
    W p l e R s m args below meth c H locs 0 0 (MQ below (pw_Qm post D A) args s 0 0 A) (F0 m pc ls []) :=
  W.vret hx hb hr (fun t ht _ => ⟨⟨_, w, rfl, hq, by rw [ht]; exact hP, hD⟩, hS.F ht⟩) hS.2.2 hdg hlocks
theorem pw_piret {x : Int32} {ty : FieldType} (hx : p.tables.exec = Jvm.exec) (hb : c.code = cc) (hr : meth.sig.returnType = some ty) (hn : narrow ty (.int x) = .int x) (hlocks : meth.locks = false) (hdg : decode cc pc = .ok (.ireturn, 1)) (hq : v = .int x) :
    W p l e R s m args below meth c s.heap [] 0 0 (MQ below (pw_Qp v) args s 0 0 (fun _ => False)) (F0 m pc ls [.int x]) :=
  W.zret hx hb hr hn (fun t ht _ => ⟨by rw [hq], ht⟩) (fun _ h => by cases h) hdg hlocks
theorem pw_paret {nm : String} {x : Value} (hx : p.tables.exec = Jvm.exec) (hb : c.code = cc) (hr : meth.sig.returnType = some (.object nm)) (hlocks : meth.locks = false) (hdg : decode cc pc = .ok (.areturn, 1)) (hv : x = .null ∨ ∃ a, x = .ref a) (hq : v = x) :
    W p l e R s m args below meth c s.heap [] 0 0 (MQ below (pw_Qp v) args s 0 0 (fun _ => False)) (F0 m pc ls [x]) :=
  W.aret hx hb hr (Or.inl ⟨_, rfl⟩) hv (fun t ht _ => ⟨by rw [hq], ht⟩) (fun _ h => by cases h) hdg hlocks
theorem pw_preS (hK : pw_K D cI cP cR s) (hP : va_P D vwCl wc H) (hD : va_D A wc) : PreS s H (pw_Pc D cI cP cR As wc H.size) As :=
  ⟨fun a U g mk q => ⟨q.1, q.2.1, q.2.2.1, q.2.2.2.1.calling, q.2.2.2.2⟩, fun U hU hW => ⟨rfl, by rw [hU], by rw [hU]; exact hP, hK.moved hW, hD.weaken (fun _ _ _ _ => trivial)⟩⟩
theorem pw_preV (hK : pw_K D cI cP cR s) (hP : va_P D vwCl wc H) (hD : va_D A wc) (q0 : Nat) {ci : Nat} {fs : List Value} {r : vw_C} (he : wc[q0]? = some (b, .inr (ci, fs))) (hc : vwCl[ci]? = some r) : PreV s H r.1 b (pw_Pc D cI cP cR (.ref b :: As) wc H.size) As :=
  ⟨fun a U g mk q => ⟨q.1, q.2.1, q.2.2.1, q.2.2.2.1.calling, q.2.2.2.2⟩, va_recv hK.1 hP hc he, fun U hU hW => ⟨rfl, by rw [hU], by rw [hU]; exact hP, hK.moved hW, hD.weaken (fun _ _ _ _ => trivial)⟩⟩
theorem pw_goesp {a : Array Value} (hr : va_Run p l e R s m args below meth c H locs cells slots 0 0 (F0 m pc ls st0) rest (pw_Qp v a) (fun _ => False))
    (kk : W p l e R s m args below meth c H locs cells slots Q (F0 m (pc + 3) ls (v :: rest))) : W p l e R s m args below meth c H locs cells slots Q (F0 m pc ls st0) := by
  intro T hT X
  obtain ⟨v', st₀, t, T', L, h0, X', hL, e1, e2, ⟨hv, hh⟩, st⟩ := hr T hT X
  cases hv
  obtain ⟨t2, a1, b1⟩ := kk T' (by rw [e1, hh, h0]) (Stand.forget X' (fun q h => (hL q h).elim))
  exact ⟨t2, st t2 a1, b1⟩
theorem pw_goesm {a : Array Value} (hr : va_Run p l e R s m args below meth c H locs cells slots 0 0 (F0 m pc ls st0) rest (pw_Qm post D (va_A wc H.size) a) (va_A wc H.size))
    (hP : va_P D vwCl w H) (hD : va_D A w) (hS : va_S A s.heap H locs) (hA : ∀ q, s.heap.size ≤ q → A q) (isC isR : List Nat) (hC : isC.map (fun i => w[i]?) = wc.map some) (hR : isR.map (fun i => w[i]?) = wr.map some) (hn : va_nd isR = true) (hdis : ∀ i ∈ isR, i ∉ isC)
    (kk : ∀ (v : Option Value) (w1 : va_W) (H1 : Heap) (locs1 : List Loc), post v w1 → va_P D vwCl (wr ++ w1) H1 → va_D A (wr ++ w1) → va_S A s.heap H1 locs1 → W p l e R s m args below meth c H1 locs1 cells slots Q (F0 m (pc + 3) ls (v.toList ++ rest))) : W p l e R s m args below meth c H locs cells slots Q (F0 m pc ls st0) := by
  intro T hT X
  obtain ⟨v', st₀, t, T', L, h0, X', hL, e1, e2, ⟨⟨v1, w1, hv, hp, hP1, hD1⟩, hz, hk⟩, st⟩ := hr T hT X
  cases hv
  rw [h0] at hz hk
  have hF := va_free hD hS hA isC hC
  have hP1' : va_P D vwCl w1 T'.heap := by rw [e1]; exact hP1
  obtain ⟨hPj, hDj⟩ := va_join hP hD isC isR hC hR hn hdis (fun q h1 h2 => by rw [e1]; exact hk q h1 h2) hF hP1' hD1
  obtain ⟨t2, a1, b1⟩ := kk v' w1 T'.heap (locs ++ L) hp hPj hDj ⟨Nat.le_trans hS.1 (by rw [e1]; exact hz), fun q h1 h2 => by rw [e1, hk q (Nat.lt_of_lt_of_le h1 hS.1) (fun z => h2 (hF q z))]; exact hS.2.1 q h1 h2, fun q hq => by
      rcases List.mem_append.mp hq with h | h
      · exact hS.2.2 q h
      · exact hF _ (hL q h)⟩ T' rfl X'
  exact ⟨t2, st t2 a1, b1⟩
/-- a call of a method that only reads, by its receiver -/
theorem pw_cVp (S : CallFix p m c cc nL s args Ts own) (hM : pw_Mp l y ws rm D cI cP cR (.ref b :: As) wc v) (cw : CallW R s args own C index y bytes maxL ret ws rm 0 0 n) (hK : pw_K D cI cP cR s) (hP : va_P D vwCl w H) (hD : va_D A w) (isC : List Nat) (hC : isC.map (fun i => w[i]?) = wc.map some) (hnC : va_nd isC = true)
    (q0 : Nat) {ci : Nat} {fs : List Value} {r : vw_C} (he : wc[q0]? = some (b, .inr (ci, fs))) (hc : vwCl[ci]? = some r) (hCr : r.1 = C) (hn : As.length = n) (hsize : ls.size = nL) (hst : st0 = As.reverse ++ .ref b :: rest) (hW : (rest.map fun v => v.category).sum ≤ 8) (hdg : decode cc pc = .ok (.invokevirtual index, 3)) (hf : cells ≤ R.cells ∧ slots ≤ R.slots)
    (kk : W p l e R s m args below meth c H locs cells slots Q (F0 m (pc + 3) ls (v :: rest))) : W p l e R s m args below meth c H locs cells slots Q (F0 m pc ls st0) :=
  have hPc : va_P D vwCl wc H := hP.sub isC (by
    have h2 := congrArg (fun z => z.filterMap id) hC
    simpa [List.filterMap_map, Function.comp_def] using h2)
  by subst hCr; exact pw_goesp (va_runV (g := F0 m pc ls st0) S (hM H.size) cw (pw_preV hK hPc (hD.sub isC hnC hC) q0 he hc) rfl hn hsize hst (lv_room hW) hdg hf) kk
theorem pw_cSp (S : CallFix p m c cc nL s args Ts own) (hM : pw_Mp l y ws rm D cI cP cR As [] v) (cw : CallB R s args own index y bytes maxL ret ws rm 0 0 n ∧ (Cond.static y).before args s = true) (hK : pw_K D cI cP cR s)
    (hn : As.length = n) (hsize : ls.size = nL) (hst : st0 = As.reverse ++ rest) (hW : (rest.map fun v => v.category).sum ≤ 8) (hdg : decode cc pc = .ok (.invokestatic index, 3)) (hf : cells ≤ R.cells ∧ slots ≤ R.slots)
    (kk : W p l e R s m args below meth c H locs cells slots Q (F0 m (pc + 3) ls (v :: rest))) : W p l e R s m args below meth c H locs cells slots Q (F0 m pc ls st0) :=
  pw_goesp (va_runS (g := F0 m pc ls st0) S (hM H.size) cw (pw_preS (A := fun _ => True) hK (fun k q h => by simp at h) ⟨fun i j p q h => by simp at h, fun k q h => by simp at h⟩) rfl hn hsize hst (lv_room hW) hdg hf) kk
/-- a call of a method that writes, by its receiver -/
theorem pw_cVm (S : CallFix p m c cc nL s args Ts own) (hM : pw_Mm l y ws rm D cI cP cR (.ref b :: As) wc post) (cw : CallW R s args own C index y bytes maxL ret ws rm 0 0 n) (hK : pw_K D cI cP cR s) (hP : va_P D vwCl w H) (hD : va_D A w) (hS : va_S A s.heap H locs) (hA : ∀ q, s.heap.size ≤ q → A q) (isC isR : List Nat) (hC : isC.map (fun i => w[i]?) = wc.map some) (hR : isR.map (fun i => w[i]?) = wr.map some) (hnC : va_nd isC = true) (hnR : va_nd isR = true) (hdis : ∀ i ∈ isR, i ∉ isC)
    (q0 : Nat) {ci : Nat} {fs : List Value} {r : vw_C} (he : wc[q0]? = some (b, .inr (ci, fs))) (hc : vwCl[ci]? = some r) (hCr : r.1 = C) (hn : As.length = n) (hsize : ls.size = nL) (hst : st0 = As.reverse ++ .ref b :: rest) (hW : (rest.map fun v => v.category).sum ≤ 8) (hdg : decode cc pc = .ok (.invokevirtual index, 3)) (hf : cells ≤ R.cells ∧ slots ≤ R.slots)
    (kk : ∀ (v : Option Value) (w1 : va_W) (H1 : Heap) (locs1 : List Loc), post v w1 → va_P D vwCl (wr ++ w1) H1 → va_D A (wr ++ w1) → va_S A s.heap H1 locs1 → W p l e R s m args below meth c H1 locs1 cells slots Q (F0 m (pc + 3) ls (v.toList ++ rest))) : W p l e R s m args below meth c H locs cells slots Q (F0 m pc ls st0) :=
  have hPc : va_P D vwCl wc H := hP.sub isC (by
    have h2 := congrArg (fun z => z.filterMap id) hC
    simpa [List.filterMap_map, Function.comp_def] using h2)
  by subst hCr; exact pw_goesm (va_runV (g := F0 m pc ls st0) S (hM H.size) cw (pw_preV hK hPc (hD.sub isC hnC hC) q0 he hc) rfl hn hsize hst (lv_room hW) hdg hf) hP hD hS hA isC isR hC hR hnR hdis kk
end PWL
/-- a reading method's contract over more cells -/
theorem pw_frp {l : Launch} {y : MethodName} {ws : List Cond} {rm : Room} {D : va_G} {cI cP cR : ClassId} {as : List Value} {wc w : va_W} {v : Value} (h : pw_Mp l y ws rm D cI cP cR as wc v) (is : List Nat) (hs : is.map (fun i => w[i]?) = wc.map some) (hn : va_nd is = true) : pw_Mp l y ws rm D cI cP cR as w v := by
  intro sz p e h1 h2 h3 s m args below h4 h5 h6 h7
  refine h sz p e h1 h2 h3 s m args below h4 h5 ?_ h7
  obtain ⟨g1, g2, g3, g4, g5⟩ := h6
  have h2 := congrArg (fun z => z.filterMap id) hs
  exact ⟨g1, g2, g3.sub is (by simpa [List.filterMap_map, Function.comp_def] using h2), g4, g5.sub is hn hs⟩
