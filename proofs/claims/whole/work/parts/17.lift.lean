/-! the class's whole world, and contracts over a part of it made contracts over all of it -/
theorem va_nd_nd : ∀ (l : List Nat), l.Nodup → va_nd l = true
  | [], _ => rfl
  | a :: l, h => by
    have h2 := List.nodup_cons.mp h
    simp only [va_nd, Bool.and_eq_true, decide_eq_true_eq]
    exact ⟨h2.1, va_nd_nd l h2.2⟩
theorem pw_P_perm {D : va_G} {cl : List vw_C} {w w' : va_W} {H : Heap} (hp : w.Perm w') (h : va_P D cl w H) : va_P D cl w' H := by
  intro k q hk
  obtain ⟨i, hi⟩ := List.getElem?_of_mem (hp.symm.subset (List.mem_of_getElem? hk))
  exact h i q hi
theorem pw_D_iff {A : Nat → Prop} {w : va_W} : va_D A w ↔ (w.map Prod.fst).Nodup ∧ ∀ q ∈ w, A q.1 := by
  constructor
  · intro h
    refine ⟨?_, fun q hq => ?_⟩
    · refine List.pairwise_iff_getElem.mpr (fun i j hi hj hij hx => ?_)
      simp only [List.length_map] at hi hj
      have h3 := h.1 i j w[i] w[j] (List.getElem?_eq_getElem hi) (List.getElem?_eq_getElem hj) (by simpa using hx)
      omega
    · obtain ⟨i, hi⟩ := List.getElem?_of_mem hq
      exact h.2 i q hi
  · rintro ⟨h1, h2⟩
    refine ⟨fun i j p q hi hj hpq => ?_, fun k q hk => h2 q (List.mem_of_getElem? hk)⟩
    have hil : i < w.length := (List.getElem?_eq_some_iff.mp hi).1
    have hjl : j < w.length := (List.getElem?_eq_some_iff.mp hj).1
    have h3 := List.pairwise_iff_getElem.mp h1
    have e1 := (List.getElem?_eq_some_iff.mp hi).2
    have e2 := (List.getElem?_eq_some_iff.mp hj).2
    rcases Nat.lt_trichotomy i j with h4 | h4 | h4
    · have h5 := h3 i j (by simpa using hil) (by simpa using hjl) h4
      simp only [List.getElem_map] at h5
      exact absurd (by rw [e1, e2, hpq]) h5
    · exact h4
    · have h5 := h3 j i (by simpa using hjl) (by simpa using hil) h4
      simp only [List.getElem_map] at h5
      exact absurd (by rw [e1, e2, hpq]) h5
theorem pw_D_perm {A : Nat → Prop} {w w' : va_W} (hp : w.Perm w') (h : va_D A w) : va_D A w' := by
  rw [pw_D_iff] at h ⊢
  exact ⟨(hp.map Prod.fst).nodup_iff.mp h.1, fun q hq => h.2 q (hp.symm.subset hq)⟩
theorem pw_A_perm {w w' : va_W} {sz : Nat} (hp : w.Perm w') (q : Nat) (h : va_A w sz q) : va_A w' sz q := by
  rcases h with ⟨k, e, h⟩ | h
  · obtain ⟨i, hi⟩ := List.getElem?_of_mem (hp.subset (List.mem_of_getElem? h))
    exact Or.inl ⟨i, e, hi⟩
  · exact Or.inr h
theorem pw_A_app {w r : va_W} {sz : Nat} (q : Nat) (h : va_A w sz q) : va_A (w ++ r) sz q := by
  rcases h with ⟨k, e, h⟩ | h
  · exact Or.inl ⟨k, e, by rw [List.getElem?_append_left (List.getElem?_eq_some_iff.mp h).1]; exact h⟩
  · exact Or.inr h
/-- a writing method's contract over more cells: w0 is its own cells and others, which stay -/
theorem pw_lift {l : Launch} {y : MethodName} {ws : List Cond} {rm : Room} {D : va_G} {cI cP cR : ClassId} {as : List Value} {wc rst w0 : va_W} {post post' : Option Value → va_W → Prop} (h : pw_Mm l y ws rm D cI cP cR as wc post) (hp : w0.Perm (wc ++ rst))
    (hq : ∀ (v : Option Value) (w1 : va_W), post v w1 → ∃ w2, (w1 ++ rst).Perm w2 ∧ post' v w2) : pw_Mm l y ws rm D cI cP cR as w0 post' := by
  intro sz p e h1 h2 h3 s m args below h4 h5 h6 h7
  obtain ⟨g1, g2, g3, g4, g5⟩ := h6
  have hP := pw_P_perm hp g3
  have hD := pw_D_perm hp g5
  have hC : (List.range wc.length).map (fun i => (wc ++ rst)[i]?) = wc.map some := by
    apply List.ext_getElem
    · simp
    · intro i hi1 hi2
      have hi : i < wc.length := by simpa using hi2
      simp [hi, List.getElem?_append_left hi]
  have hR : ((List.range rst.length).map (· + wc.length)).map (fun i => (wc ++ rst)[i]?) = rst.map some := by
    apply List.ext_getElem
    · simp
    · intro i hi1 hi2
      have hi : i < rst.length := by simpa using hi2
      simp [List.getElem?_append_right, hi]
  have ndC : va_nd (List.range wc.length) = true := va_nd_nd _ List.nodup_range
  have ndR : va_nd ((List.range rst.length).map (· + wc.length)) = true := va_nd_nd _ (List.Pairwise.map _ (fun a b hab => by intro hh; exact hab (by omega)) List.nodup_range)
  have hPc : va_P D vwCl wc s.heap := hP.sub (List.range wc.length) (by
    have h2 := congrArg (fun z => z.filterMap id) hC
    simpa [List.filterMap_map, Function.comp_def] using h2)
  obtain ⟨n, o, q1, q2, q3, ⟨⟨v, w1, e1, e2, e3, e4⟩, e5⟩, L, e6, e7⟩ := h sz p e h1 h2 h3 s m args below h4 h5 ⟨g1, g2, hPc, g4, hD.sub (List.range wc.length) ndC hC⟩ h7
  subst g2
  have hFs : ∀ q, va_A wc s.heap.size q → va_A w0 s.heap.size q := fun q hq => pw_A_perm hp.symm q (pw_A_app q hq)
  have hD0 : va_D (va_A w0 s.heap.size) (wc ++ rst) := pw_D_perm hp g5.self
  obtain ⟨j1, j2⟩ := va_join hP hD0 (List.range wc.length) ((List.range rst.length).map (· + wc.length)) hC hR ndR (by
    intro i hi hi2
    obtain ⟨a, -, rfl⟩ := List.mem_map.mp hi
    have := List.mem_range.mp hi2
    omega) (fun q z1 z2 => e5.2 q z1 z2) hFs e3 e4
  obtain ⟨w2, p1, p2⟩ := hq v w1 e2
  have hpp := (List.perm_append_comm (l₁ := rst) (l₂ := w1)).trans p1
  exact ⟨n, o, q1, q2, q3, ⟨⟨v, w2, e1, p2, pw_P_perm hpp j1, pw_D_perm hpp j2⟩, e5.1, fun q z1 z2 => e5.2 q z1 (fun z3 => z2 (hFs q z3))⟩, L, e6, fun q hq => hFs _ (e7 q hq)⟩
/-- a reading method's contract as one that writes nothing, over more cells -/
theorem pw_liftp {l : Launch} {y : MethodName} {ws : List Cond} {rm : Room} {D : va_G} {cI cP cR : ClassId} {as : List Value} {wc rst w0 : va_W} {v0 : Value} (h : pw_Mp l y ws rm D cI cP cR as wc v0) (hp : w0.Perm (wc ++ rst)) : pw_Mm l y ws rm D cI cP cR as w0 (fun v w => v = some v0 ∧ w = w0) := by
  intro sz p e h1 h2 h3 s m args below h4 h5 h6 h7
  obtain ⟨g1, g2, g3, g4, g5⟩ := h6
  have hP := pw_P_perm hp g3
  have hD := pw_D_perm hp g5
  have hC : (List.range wc.length).map (fun i => (wc ++ rst)[i]?) = wc.map some := by
    apply List.ext_getElem
    · simp
    · intro i hi1 hi2
      have hi : i < wc.length := by simpa using hi2
      simp [hi, List.getElem?_append_left hi]
  have ndC : va_nd (List.range wc.length) = true := va_nd_nd _ List.nodup_range
  have hPc : va_P D vwCl wc s.heap := hP.sub (List.range wc.length) (by
    have h2 := congrArg (fun z => z.filterMap id) hC
    simpa [List.filterMap_map, Function.comp_def] using h2)
  obtain ⟨n, o, q1, q2, q3, ⟨e1, e2⟩, L, e6, e7⟩ := h sz p e h1 h2 h3 s m args below h4 h5 ⟨g1, g2, hPc, g4, hD.sub (List.range wc.length) ndC hC⟩ h7
  exact ⟨n, o, q1, q2, q3, ⟨⟨some v0, w0, e1, ⟨rfl, rfl⟩, by rw [e2]; exact g3, g5.self⟩, by rw [e2]; exact Nat.le_refl _, fun q _ _ => by rw [e2]⟩, L, e6, fun q hq => (e7 q hq).elim⟩
theorem pw_perm_pl {α : Type} {w w' : List α} (is : List Nat) (n : Nat) (hn : w.length = n) (hi : is.Perm (List.range n)) (h : is.map (fun i => w[i]?) = w'.map some) : w.Perm w' := by
  have h1 : ((List.range n).map (fun i => w[i]?)) = w.map some := by
    subst hn
    apply List.ext_getElem
    · simp
    · intro i hi1 hi2
      have hi : i < w.length := by simpa using hi2
      simp [hi]
  have h2 : (w.map some).Perm (w'.map some) := by
    rw [← h1, ← h]
    exact (hi.map _).symm
  have h3 := h2.filterMap id
  simpa [List.filterMap_map, Function.comp_def] using h3
