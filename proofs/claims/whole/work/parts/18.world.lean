/-! the class's world: its object, the two tables, three rows, four pegs -/
abbrev PgT : Type := Option Nat × Int32 × Nat × Int32 × Int32 × Int32
def cPeg (ro po : Nat → Nat) (pg : Nat → PgT) (k : Nat) : Nat × va_E := (po k, .inr (0, [va_rf ((pg k).1.map ro), .int ((pg k).2.1), .int (nI ((pg k).2.2.1)), .int ((pg k).2.2.2.1), .int ((pg k).2.2.2.2.1), .int ((pg k).2.2.2.2.2)]))
def cW (cI cP cR : ClassId) (h qr qp : Nat) (ro ao po : Nat → Nat) (md : Nat) (rc : Nat → Int32) (rw : Nat → Nat × Nat × (Nat → Int32)) (pg : Nat → PgT) : va_W := [(h, .inr (2, [.ref qr, .ref qp, .int (nI (md)), .int ((rc) 0), .int ((rc) 1), .int ((rc) 2), .int ((rc) 3)])), (qr, .inl (cR, 3, .inr (.inr (.inr (.inr (fun i => some (ro i))))))), (qp, .inl (cP, 4, .inr (.inr (.inr (.inr (fun i => some (po i))))))), (ro 0, .inr (1, [.ref (ao 0), .int (nI ((rw 0).1)), .int (nI ((rw 0).2.1))])), (ao 0, .inl (cI, 60, .inl ((rw 0).2.2))), (ro 1, .inr (1, [.ref (ao 1), .int (nI ((rw 1).1)), .int (nI ((rw 1).2.1))])), (ao 1, .inl (cI, 60, .inl ((rw 1).2.2))), (ro 2, .inr (1, [.ref (ao 2), .int (nI ((rw 2).1)), .int (nI ((rw 2).2.1))])), (ao 2, .inl (cI, 60, .inl ((rw 2).2.2))), cPeg ro po pg 0, cPeg ro po pg 1, cPeg ro po pg 2, cPeg ro po pg 3]
set_option maxRecDepth 4000 in
theorem lT_p {l : Launch} {y : MethodName} {ws : List Cond} {rm : Room} {D : va_G} {cI cP cR : ClassId} {h qr qp : Nat} {ro ao po : Nat → Nat} {md : Nat} {rc : Nat → Int32} {rw : Nat → Nat × Nat × (Nat → Int32)} {pg : Nat → PgT} {as : List Value}   {v0 : Value} (hm : pw_Mp l y ws rm D cI cP cR as [(h, .inr (2, [.ref qr, .ref qp, .int (nI (md)), .int ((rc) 0), .int ((rc) 1), .int ((rc) 2), .int ((rc) 3)]))] v0) : pw_Mm l y ws rm D cI cP cR as (cW cI cP cR h qr qp ro ao po (md) (rc) (rw) (pg)) (fun v w => v = some v0 ∧ w = cW cI cP cR h qr qp ro ao po (md) (rc) (rw) (pg)) := by
  exact pw_liftp (rst := ([1, 2, 3, 4, 5, 6, 7, 8, 9, 10, 11, 12].filterMap (fun k => (cW cI cP cR h qr qp ro ao po (md) (rc) (rw) (pg))[k]?))) hm (pw_perm_pl [0, 1, 2, 3, 4, 5, 6, 7, 8, 9, 10, 11, 12] 13 rfl (by decide) (by rfl))
set_option maxRecDepth 4000 in
theorem lB_p {l : Launch} {y : MethodName} {ws : List Cond} {rm : Room} {D : va_G} {cI cP cR : ClassId} {h qr qp : Nat} {ro ao po : Nat → Nat} {md : Nat} {rc : Nat → Int32} {rw : Nat → Nat × Nat × (Nat → Int32)} {pg : Nat → PgT} {as : List Value}   {v0 : Value} (hm : pw_Mp l y ws rm D cI cP cR as [(h, .inr (2, [.ref qr, .ref qp, .int (nI (md)), .int ((rc) 0), .int ((rc) 1), .int ((rc) 2), .int ((rc) 3)])), (qr, .inl (cR, 3, .inr (.inr (.inr (.inr (fun i => some (ro i)))))))] v0) : pw_Mm l y ws rm D cI cP cR as (cW cI cP cR h qr qp ro ao po (md) (rc) (rw) (pg)) (fun v w => v = some v0 ∧ w = cW cI cP cR h qr qp ro ao po (md) (rc) (rw) (pg)) := by
  exact pw_liftp (rst := ([2, 3, 4, 5, 6, 7, 8, 9, 10, 11, 12].filterMap (fun k => (cW cI cP cR h qr qp ro ao po (md) (rc) (rw) (pg))[k]?))) hm (pw_perm_pl [0, 1, 2, 3, 4, 5, 6, 7, 8, 9, 10, 11, 12] 13 rfl (by decide) (by rfl))
set_option maxRecDepth 4000 in
theorem lG_p {l : Launch} {y : MethodName} {ws : List Cond} {rm : Room} {D : va_G} {cI cP cR : ClassId} {h qr qp : Nat} {ro ao po : Nat → Nat} {md : Nat} {rc : Nat → Int32} {rw : Nat → Nat × Nat × (Nat → Int32)} {pg : Nat → PgT} {as : List Value}   {v0 : Value} (hm : pw_Mp l y ws rm D cI cP cR as [(h, .inr (2, [.ref qr, .ref qp, .int (nI (md)), .int ((rc) 0), .int ((rc) 1), .int ((rc) 2), .int ((rc) 3)])), (qp, .inl (cP, 4, .inr (.inr (.inr (.inr (fun i => some (po i)))))))] v0) : pw_Mm l y ws rm D cI cP cR as (cW cI cP cR h qr qp ro ao po (md) (rc) (rw) (pg)) (fun v w => v = some v0 ∧ w = cW cI cP cR h qr qp ro ao po (md) (rc) (rw) (pg)) := by
  exact pw_liftp (rst := ([1, 3, 4, 5, 6, 7, 8, 9, 10, 11, 12].filterMap (fun k => (cW cI cP cR h qr qp ro ao po (md) (rc) (rw) (pg))[k]?))) hm (pw_perm_pl [0, 2, 1, 3, 4, 5, 6, 7, 8, 9, 10, 11, 12] 13 rfl (by decide) (by rfl))
set_option maxRecDepth 4000 in
theorem lBG_p {l : Launch} {y : MethodName} {ws : List Cond} {rm : Room} {D : va_G} {cI cP cR : ClassId} {h qr qp : Nat} {ro ao po : Nat → Nat} {md : Nat} {rc : Nat → Int32} {rw : Nat → Nat × Nat × (Nat → Int32)} {pg : Nat → PgT} {as : List Value}   {v0 : Value} (hm : pw_Mp l y ws rm D cI cP cR as [(h, .inr (2, [.ref qr, .ref qp, .int (nI (md)), .int ((rc) 0), .int ((rc) 1), .int ((rc) 2), .int ((rc) 3)])), (qr, .inl (cR, 3, .inr (.inr (.inr (.inr (fun i => some (ro i))))))), (qp, .inl (cP, 4, .inr (.inr (.inr (.inr (fun i => some (po i)))))))] v0) : pw_Mm l y ws rm D cI cP cR as (cW cI cP cR h qr qp ro ao po (md) (rc) (rw) (pg)) (fun v w => v = some v0 ∧ w = cW cI cP cR h qr qp ro ao po (md) (rc) (rw) (pg)) := by
  exact pw_liftp (rst := ([3, 4, 5, 6, 7, 8, 9, 10, 11, 12].filterMap (fun k => (cW cI cP cR h qr qp ro ao po (md) (rc) (rw) (pg))[k]?))) hm (pw_perm_pl [0, 1, 2, 3, 4, 5, 6, 7, 8, 9, 10, 11, 12] 13 rfl (by decide) (by rfl))
set_option maxRecDepth 4000 in
theorem lR_p {l : Launch} {y : MethodName} {ws : List Cond} {rm : Room} {D : va_G} {cI cP cR : ClassId} {h qr qp : Nat} {ro ao po : Nat → Nat} {md : Nat} {rc : Nat → Int32} {rw : Nat → Nat × Nat × (Nat → Int32)} {pg : Nat → PgT} {as : List Value} {i : Nat} (hi : i < 3) {v0 : Value} (hm : pw_Mp l y ws rm D cI cP cR as [(h, .inr (2, [.ref qr, .ref qp, .int (nI (md)), .int ((rc) 0), .int ((rc) 1), .int ((rc) 2), .int ((rc) 3)])), (qr, .inl (cR, 3, .inr (.inr (.inr (.inr (fun i => some (ro i))))))), (ro i, .inr (1, [.ref (ao i), .int (nI ((rw i).1)), .int (nI ((rw i).2.1))])), (ao i, .inl (cI, 60, .inl ((rw i).2.2)))] v0) : pw_Mm l y ws rm D cI cP cR as (cW cI cP cR h qr qp ro ao po (md) (rc) (rw) (pg)) (fun v w => v = some v0 ∧ w = cW cI cP cR h qr qp ro ao po (md) (rc) (rw) (pg)) := by
  rcases (show i = 0 ∨ i = 1 ∨ i = 2 by omega) with rfl | rfl | rfl
  · exact pw_liftp (rst := ([2, 5, 6, 7, 8, 9, 10, 11, 12].filterMap (fun k => (cW cI cP cR h qr qp ro ao po (md) (rc) (rw) (pg))[k]?))) hm (pw_perm_pl [0, 1, 3, 4, 2, 5, 6, 7, 8, 9, 10, 11, 12] 13 rfl (by decide) (by rfl))
  · exact pw_liftp (rst := ([2, 3, 4, 7, 8, 9, 10, 11, 12].filterMap (fun k => (cW cI cP cR h qr qp ro ao po (md) (rc) (rw) (pg))[k]?))) hm (pw_perm_pl [0, 1, 5, 6, 2, 3, 4, 7, 8, 9, 10, 11, 12] 13 rfl (by decide) (by rfl))
  · exact pw_liftp (rst := ([2, 3, 4, 5, 6, 9, 10, 11, 12].filterMap (fun k => (cW cI cP cR h qr qp ro ao po (md) (rc) (rw) (pg))[k]?))) hm (pw_perm_pl [0, 1, 7, 8, 2, 3, 4, 5, 6, 9, 10, 11, 12] 13 rfl (by decide) (by rfl))
set_option maxRecDepth 4000 in
theorem lR {l : Launch} {y : MethodName} {ws : List Cond} {rm : Room} {D : va_G} {cI cP cR : ClassId} {h qr qp : Nat} {ro ao po : Nat → Nat} {md md2 : Nat} {rc rc2 : Nat → Int32} {rw : Nat → Nat × Nat × (Nat → Int32)} {pg : Nat → PgT} {as : List Value} {i : Nat} (hi : i < 3) {V : Option Value} {n2 c2 : Nat} {f2 : Nat → Int32} (hm : pw_Mm l y ws rm D cI cP cR as [(h, .inr (2, [.ref qr, .ref qp, .int (nI (md)), .int ((rc) 0), .int ((rc) 1), .int ((rc) 2), .int ((rc) 3)])), (qr, .inl (cR, 3, .inr (.inr (.inr (.inr (fun i => some (ro i))))))), (ro i, .inr (1, [.ref (ao i), .int (nI ((rw i).1)), .int (nI ((rw i).2.1))])), (ao i, .inl (cI, 60, .inl ((rw i).2.2)))] (fun v w => v = V ∧ w = [(h, .inr (2, [.ref qr, .ref qp, .int (nI (md2)), .int ((rc2) 0), .int ((rc2) 1), .int ((rc2) 2), .int ((rc2) 3)])), (qr, .inl (cR, 3, .inr (.inr (.inr (.inr (fun i => some (ro i))))))), (ro i, .inr (1, [.ref (ao i), .int (nI (n2)), .int (nI (c2))])), (ao i, .inl (cI, 60, .inl (f2)))])) : pw_Mm l y ws rm D cI cP cR as (cW cI cP cR h qr qp ro ao po (md) (rc) (rw) (pg)) (fun v w => v = V ∧ w = cW cI cP cR h qr qp ro ao po (md2) (rc2) (va_up rw i (n2, c2, f2)) (pg)) := by
  rcases (show i = 0 ∨ i = 1 ∨ i = 2 by omega) with rfl | rfl | rfl
  · refine pw_lift (rst := ([2, 5, 6, 7, 8, 9, 10, 11, 12].filterMap (fun k => (cW cI cP cR h qr qp ro ao po (md) (rc) (rw) (pg))[k]?))) hm (pw_perm_pl [0, 1, 3, 4, 2, 5, 6, 7, 8, 9, 10, 11, 12] 13 rfl (by decide) (by rfl)) (fun v w1 hq => ⟨_, ?_, hq.1, rfl⟩)
    obtain ⟨-, rfl⟩ := hq
    exact pw_perm_pl [0, 1, 4, 2, 3, 5, 6, 7, 8, 9, 10, 11, 12] 13 rfl (by decide) rfl
  · refine pw_lift (rst := ([2, 3, 4, 7, 8, 9, 10, 11, 12].filterMap (fun k => (cW cI cP cR h qr qp ro ao po (md) (rc) (rw) (pg))[k]?))) hm (pw_perm_pl [0, 1, 5, 6, 2, 3, 4, 7, 8, 9, 10, 11, 12] 13 rfl (by decide) (by rfl)) (fun v w1 hq => ⟨_, ?_, hq.1, rfl⟩)
    obtain ⟨-, rfl⟩ := hq
    exact pw_perm_pl [0, 1, 4, 5, 6, 2, 3, 7, 8, 9, 10, 11, 12] 13 rfl (by decide) rfl
  · refine pw_lift (rst := ([2, 3, 4, 5, 6, 9, 10, 11, 12].filterMap (fun k => (cW cI cP cR h qr qp ro ao po (md) (rc) (rw) (pg))[k]?))) hm (pw_perm_pl [0, 1, 7, 8, 2, 3, 4, 5, 6, 9, 10, 11, 12] 13 rfl (by decide) (by rfl)) (fun v w1 hq => ⟨_, ?_, hq.1, rfl⟩)
    obtain ⟨-, rfl⟩ := hq
    exact pw_perm_pl [0, 1, 4, 5, 6, 7, 8, 2, 3, 9, 10, 11, 12] 13 rfl (by decide) rfl
set_option maxRecDepth 4000 in
theorem lRR_p {l : Launch} {y : MethodName} {ws : List Cond} {rm : Room} {D : va_G} {cI cP cR : ClassId} {h qr qp : Nat} {ro ao po : Nat → Nat} {md : Nat} {rc : Nat → Int32} {rw : Nat → Nat × Nat × (Nat → Int32)} {pg : Nat → PgT} {as : List Value} {i j : Nat} (hi : i < 3) (hj : j < 3) (hne : ¬ i = j) {v0 : Value} (hm : pw_Mp l y ws rm D cI cP cR as [(h, .inr (2, [.ref qr, .ref qp, .int (nI (md)), .int ((rc) 0), .int ((rc) 1), .int ((rc) 2), .int ((rc) 3)])), (qr, .inl (cR, 3, .inr (.inr (.inr (.inr (fun i => some (ro i))))))), (ro i, .inr (1, [.ref (ao i), .int (nI ((rw i).1)), .int (nI ((rw i).2.1))])), (ao i, .inl (cI, 60, .inl ((rw i).2.2))), (ro j, .inr (1, [.ref (ao j), .int (nI ((rw j).1)), .int (nI ((rw j).2.1))])), (ao j, .inl (cI, 60, .inl ((rw j).2.2)))] v0) : pw_Mm l y ws rm D cI cP cR as (cW cI cP cR h qr qp ro ao po (md) (rc) (rw) (pg)) (fun v w => v = some v0 ∧ w = cW cI cP cR h qr qp ro ao po (md) (rc) (rw) (pg)) := by
  rcases (show i = 0 ∨ i = 1 ∨ i = 2 by omega) with rfl | rfl | rfl
  · rcases (show j = 1 ∨ j = 2 by omega) with rfl | rfl
    · exact pw_liftp (rst := ([2, 7, 8, 9, 10, 11, 12].filterMap (fun k => (cW cI cP cR h qr qp ro ao po (md) (rc) (rw) (pg))[k]?))) hm (pw_perm_pl [0, 1, 3, 4, 5, 6, 2, 7, 8, 9, 10, 11, 12] 13 rfl (by decide) (by rfl))
    · exact pw_liftp (rst := ([2, 5, 6, 9, 10, 11, 12].filterMap (fun k => (cW cI cP cR h qr qp ro ao po (md) (rc) (rw) (pg))[k]?))) hm (pw_perm_pl [0, 1, 3, 4, 7, 8, 2, 5, 6, 9, 10, 11, 12] 13 rfl (by decide) (by rfl))
  · rcases (show j = 0 ∨ j = 2 by omega) with rfl | rfl
    · exact pw_liftp (rst := ([2, 7, 8, 9, 10, 11, 12].filterMap (fun k => (cW cI cP cR h qr qp ro ao po (md) (rc) (rw) (pg))[k]?))) hm (pw_perm_pl [0, 1, 5, 6, 3, 4, 2, 7, 8, 9, 10, 11, 12] 13 rfl (by decide) (by rfl))
    · exact pw_liftp (rst := ([2, 3, 4, 9, 10, 11, 12].filterMap (fun k => (cW cI cP cR h qr qp ro ao po (md) (rc) (rw) (pg))[k]?))) hm (pw_perm_pl [0, 1, 5, 6, 7, 8, 2, 3, 4, 9, 10, 11, 12] 13 rfl (by decide) (by rfl))
  · rcases (show j = 0 ∨ j = 1 by omega) with rfl | rfl
    · exact pw_liftp (rst := ([2, 5, 6, 9, 10, 11, 12].filterMap (fun k => (cW cI cP cR h qr qp ro ao po (md) (rc) (rw) (pg))[k]?))) hm (pw_perm_pl [0, 1, 7, 8, 3, 4, 2, 5, 6, 9, 10, 11, 12] 13 rfl (by decide) (by rfl))
    · exact pw_liftp (rst := ([2, 3, 4, 9, 10, 11, 12].filterMap (fun k => (cW cI cP cR h qr qp ro ao po (md) (rc) (rw) (pg))[k]?))) hm (pw_perm_pl [0, 1, 7, 8, 5, 6, 2, 3, 4, 9, 10, 11, 12] 13 rfl (by decide) (by rfl))
set_option maxRecDepth 4000 in
theorem lRR {l : Launch} {y : MethodName} {ws : List Cond} {rm : Room} {D : va_G} {cI cP cR : ClassId} {h qr qp : Nat} {ro ao po : Nat → Nat} {md md2 : Nat} {rc rc2 : Nat → Int32} {rw : Nat → Nat × Nat × (Nat → Int32)} {pg : Nat → PgT} {as : List Value} {i j : Nat} (hi : i < 3) (hj : j < 3) (hne : ¬ i = j) {V : Option Value} {n2 c2 : Nat} {f2 : Nat → Int32} (hm : pw_Mm l y ws rm D cI cP cR as [(h, .inr (2, [.ref qr, .ref qp, .int (nI (md)), .int ((rc) 0), .int ((rc) 1), .int ((rc) 2), .int ((rc) 3)])), (qr, .inl (cR, 3, .inr (.inr (.inr (.inr (fun i => some (ro i))))))), (ro i, .inr (1, [.ref (ao i), .int (nI ((rw i).1)), .int (nI ((rw i).2.1))])), (ao i, .inl (cI, 60, .inl ((rw i).2.2))), (ro j, .inr (1, [.ref (ao j), .int (nI ((rw j).1)), .int (nI ((rw j).2.1))])), (ao j, .inl (cI, 60, .inl ((rw j).2.2)))] (fun v w => v = V ∧ w = [(h, .inr (2, [.ref qr, .ref qp, .int (nI (md2)), .int ((rc2) 0), .int ((rc2) 1), .int ((rc2) 2), .int ((rc2) 3)])), (qr, .inl (cR, 3, .inr (.inr (.inr (.inr (fun i => some (ro i))))))), (ro i, .inr (1, [.ref (ao i), .int (nI (n2)), .int (nI (c2))])), (ao i, .inl (cI, 60, .inl (f2))), (ro j, .inr (1, [.ref (ao j), .int (nI ((rw j).1)), .int (nI ((rw j).2.1))])), (ao j, .inl (cI, 60, .inl ((rw j).2.2)))])) : pw_Mm l y ws rm D cI cP cR as (cW cI cP cR h qr qp ro ao po (md) (rc) (rw) (pg)) (fun v w => v = V ∧ w = cW cI cP cR h qr qp ro ao po (md2) (rc2) (va_up rw i (n2, c2, f2)) (pg)) := by
  rcases (show i = 0 ∨ i = 1 ∨ i = 2 by omega) with rfl | rfl | rfl
  · rcases (show j = 1 ∨ j = 2 by omega) with rfl | rfl
    · refine pw_lift (rst := ([2, 7, 8, 9, 10, 11, 12].filterMap (fun k => (cW cI cP cR h qr qp ro ao po (md) (rc) (rw) (pg))[k]?))) hm (pw_perm_pl [0, 1, 3, 4, 5, 6, 2, 7, 8, 9, 10, 11, 12] 13 rfl (by decide) (by rfl)) (fun v w1 hq => ⟨_, ?_, hq.1, rfl⟩)
      obtain ⟨-, rfl⟩ := hq
      exact pw_perm_pl [0, 1, 6, 2, 3, 4, 5, 7, 8, 9, 10, 11, 12] 13 rfl (by decide) rfl
    · refine pw_lift (rst := ([2, 5, 6, 9, 10, 11, 12].filterMap (fun k => (cW cI cP cR h qr qp ro ao po (md) (rc) (rw) (pg))[k]?))) hm (pw_perm_pl [0, 1, 3, 4, 7, 8, 2, 5, 6, 9, 10, 11, 12] 13 rfl (by decide) (by rfl)) (fun v w1 hq => ⟨_, ?_, hq.1, rfl⟩)
      obtain ⟨-, rfl⟩ := hq
      exact pw_perm_pl [0, 1, 6, 2, 3, 7, 8, 4, 5, 9, 10, 11, 12] 13 rfl (by decide) rfl
  · rcases (show j = 0 ∨ j = 2 by omega) with rfl | rfl
    · refine pw_lift (rst := ([2, 7, 8, 9, 10, 11, 12].filterMap (fun k => (cW cI cP cR h qr qp ro ao po (md) (rc) (rw) (pg))[k]?))) hm (pw_perm_pl [0, 1, 5, 6, 3, 4, 2, 7, 8, 9, 10, 11, 12] 13 rfl (by decide) (by rfl)) (fun v w1 hq => ⟨_, ?_, hq.1, rfl⟩)
      obtain ⟨-, rfl⟩ := hq
      exact pw_perm_pl [0, 1, 6, 4, 5, 2, 3, 7, 8, 9, 10, 11, 12] 13 rfl (by decide) rfl
    · refine pw_lift (rst := ([2, 3, 4, 9, 10, 11, 12].filterMap (fun k => (cW cI cP cR h qr qp ro ao po (md) (rc) (rw) (pg))[k]?))) hm (pw_perm_pl [0, 1, 5, 6, 7, 8, 2, 3, 4, 9, 10, 11, 12] 13 rfl (by decide) (by rfl)) (fun v w1 hq => ⟨_, ?_, hq.1, rfl⟩)
      obtain ⟨-, rfl⟩ := hq
      exact pw_perm_pl [0, 1, 6, 7, 8, 2, 3, 4, 5, 9, 10, 11, 12] 13 rfl (by decide) rfl
  · rcases (show j = 0 ∨ j = 1 by omega) with rfl | rfl
    · refine pw_lift (rst := ([2, 5, 6, 9, 10, 11, 12].filterMap (fun k => (cW cI cP cR h qr qp ro ao po (md) (rc) (rw) (pg))[k]?))) hm (pw_perm_pl [0, 1, 7, 8, 3, 4, 2, 5, 6, 9, 10, 11, 12] 13 rfl (by decide) (by rfl)) (fun v w1 hq => ⟨_, ?_, hq.1, rfl⟩)
      obtain ⟨-, rfl⟩ := hq
      exact pw_perm_pl [0, 1, 6, 4, 5, 7, 8, 2, 3, 9, 10, 11, 12] 13 rfl (by decide) rfl
    · refine pw_lift (rst := ([2, 3, 4, 9, 10, 11, 12].filterMap (fun k => (cW cI cP cR h qr qp ro ao po (md) (rc) (rw) (pg))[k]?))) hm (pw_perm_pl [0, 1, 7, 8, 5, 6, 2, 3, 4, 9, 10, 11, 12] 13 rfl (by decide) (by rfl)) (fun v w1 hq => ⟨_, ?_, hq.1, rfl⟩)
      obtain ⟨-, rfl⟩ := hq
      exact pw_perm_pl [0, 1, 6, 7, 8, 4, 5, 2, 3, 9, 10, 11, 12] 13 rfl (by decide) rfl
set_option maxRecDepth 4000 in
theorem lPF_p {l : Launch} {y : MethodName} {ws : List Cond} {rm : Room} {D : va_G} {cI cP cR : ClassId} {h qr qp : Nat} {ro ao po : Nat → Nat} {md : Nat} {rc : Nat → Int32} {rw : Nat → Nat × Nat × (Nat → Int32)} {pg : Nat → PgT} {as : List Value} {p : Nat} {pa : Int32} {ps : Nat} {ph pt pm : Int32}  (hp4 : p < 4) (hg : pg p = (none, pa, ps, ph, pt, pm)) {v0 : Value} (hm : pw_Mp l y ws rm D cI cP cR as [(h, .inr (2, [.ref qr, .ref qp, .int (nI (md)), .int ((rc) 0), .int ((rc) 1), .int ((rc) 2), .int ((rc) 3)])), (qp, .inl (cP, 4, .inr (.inr (.inr (.inr (fun i => some (po i))))))), (po p, .inr (0, [.null, .int (pa), .int (nI (ps)), .int (ph), .int (pt), .int (pm)]))] v0) : pw_Mm l y ws rm D cI cP cR as (cW cI cP cR h qr qp ro ao po (md) (rc) (rw) (pg)) (fun v w => v = some v0 ∧ w = cW cI cP cR h qr qp ro ao po (md) (rc) (rw) (pg)) := by
  rcases (show p = 0 ∨ p = 1 ∨ p = 2 ∨ p = 3 by omega) with rfl | rfl | rfl | rfl
  · have hc : cPeg ro po pg 0 = (po 0, .inr (0, [.null, .int (pa), .int (nI (ps)), .int (ph), .int (pt), .int (pm)])) := by unfold cPeg; rw [hg]; rfl
    exact pw_liftp (rst := ([1, 3, 4, 5, 6, 7, 8, 10, 11, 12].filterMap (fun k => (cW cI cP cR h qr qp ro ao po (md) (rc) (rw) (pg))[k]?))) hm (pw_perm_pl [0, 2, 9, 1, 3, 4, 5, 6, 7, 8, 10, 11, 12] 13 rfl (by decide) (by rw [← hc]; rfl))
  · have hc : cPeg ro po pg 1 = (po 1, .inr (0, [.null, .int (pa), .int (nI (ps)), .int (ph), .int (pt), .int (pm)])) := by unfold cPeg; rw [hg]; rfl
    exact pw_liftp (rst := ([1, 3, 4, 5, 6, 7, 8, 9, 11, 12].filterMap (fun k => (cW cI cP cR h qr qp ro ao po (md) (rc) (rw) (pg))[k]?))) hm (pw_perm_pl [0, 2, 10, 1, 3, 4, 5, 6, 7, 8, 9, 11, 12] 13 rfl (by decide) (by rw [← hc]; rfl))
  · have hc : cPeg ro po pg 2 = (po 2, .inr (0, [.null, .int (pa), .int (nI (ps)), .int (ph), .int (pt), .int (pm)])) := by unfold cPeg; rw [hg]; rfl
    exact pw_liftp (rst := ([1, 3, 4, 5, 6, 7, 8, 9, 10, 12].filterMap (fun k => (cW cI cP cR h qr qp ro ao po (md) (rc) (rw) (pg))[k]?))) hm (pw_perm_pl [0, 2, 11, 1, 3, 4, 5, 6, 7, 8, 9, 10, 12] 13 rfl (by decide) (by rw [← hc]; rfl))
  · have hc : cPeg ro po pg 3 = (po 3, .inr (0, [.null, .int (pa), .int (nI (ps)), .int (ph), .int (pt), .int (pm)])) := by unfold cPeg; rw [hg]; rfl
    exact pw_liftp (rst := ([1, 3, 4, 5, 6, 7, 8, 9, 10, 11].filterMap (fun k => (cW cI cP cR h qr qp ro ao po (md) (rc) (rw) (pg))[k]?))) hm (pw_perm_pl [0, 2, 12, 1, 3, 4, 5, 6, 7, 8, 9, 10, 11] 13 rfl (by decide) (by rw [← hc]; rfl))
set_option maxRecDepth 4000 in
theorem lPR_p {l : Launch} {y : MethodName} {ws : List Cond} {rm : Room} {D : va_G} {cI cP cR : ClassId} {h qr qp : Nat} {ro ao po : Nat → Nat} {md : Nat} {rc : Nat → Int32} {rw : Nat → Nat × Nat × (Nat → Int32)} {pg : Nat → PgT} {as : List Value} {p i : Nat} {pa : Int32} {ps : Nat} {ph pt pm : Int32}  (hp4 : p < 4) (hi : i < 3) (hg : pg p = (some i, pa, ps, ph, pt, pm)) {v0 : Value} (hm : pw_Mp l y ws rm D cI cP cR as [(h, .inr (2, [.ref qr, .ref qp, .int (nI (md)), .int ((rc) 0), .int ((rc) 1), .int ((rc) 2), .int ((rc) 3)])), (qp, .inl (cP, 4, .inr (.inr (.inr (.inr (fun i => some (po i))))))), (po p, .inr (0, [.ref (ro i), .int (pa), .int (nI (ps)), .int (ph), .int (pt), .int (pm)])), (ro i, .inr (1, [.ref (ao i), .int (nI ((rw i).1)), .int (nI ((rw i).2.1))])), (ao i, .inl (cI, 60, .inl ((rw i).2.2)))] v0) : pw_Mm l y ws rm D cI cP cR as (cW cI cP cR h qr qp ro ao po (md) (rc) (rw) (pg)) (fun v w => v = some v0 ∧ w = cW cI cP cR h qr qp ro ao po (md) (rc) (rw) (pg)) := by
  rcases (show p = 0 ∨ p = 1 ∨ p = 2 ∨ p = 3 by omega) with rfl | rfl | rfl | rfl
  · rcases (show i = 0 ∨ i = 1 ∨ i = 2 by omega) with rfl | rfl | rfl
    · have hc : cPeg ro po pg 0 = (po 0, .inr (0, [.ref (ro 0), .int (pa), .int (nI (ps)), .int (ph), .int (pt), .int (pm)])) := by unfold cPeg; rw [hg]; rfl
      exact pw_liftp (rst := ([1, 5, 6, 7, 8, 10, 11, 12].filterMap (fun k => (cW cI cP cR h qr qp ro ao po (md) (rc) (rw) (pg))[k]?))) hm (pw_perm_pl [0, 2, 9, 3, 4, 1, 5, 6, 7, 8, 10, 11, 12] 13 rfl (by decide) (by rw [← hc]; rfl))
    · have hc : cPeg ro po pg 0 = (po 0, .inr (0, [.ref (ro 1), .int (pa), .int (nI (ps)), .int (ph), .int (pt), .int (pm)])) := by unfold cPeg; rw [hg]; rfl
      exact pw_liftp (rst := ([1, 3, 4, 7, 8, 10, 11, 12].filterMap (fun k => (cW cI cP cR h qr qp ro ao po (md) (rc) (rw) (pg))[k]?))) hm (pw_perm_pl [0, 2, 9, 5, 6, 1, 3, 4, 7, 8, 10, 11, 12] 13 rfl (by decide) (by rw [← hc]; rfl))
    · have hc : cPeg ro po pg 0 = (po 0, .inr (0, [.ref (ro 2), .int (pa), .int (nI (ps)), .int (ph), .int (pt), .int (pm)])) := by unfold cPeg; rw [hg]; rfl
      exact pw_liftp (rst := ([1, 3, 4, 5, 6, 10, 11, 12].filterMap (fun k => (cW cI cP cR h qr qp ro ao po (md) (rc) (rw) (pg))[k]?))) hm (pw_perm_pl [0, 2, 9, 7, 8, 1, 3, 4, 5, 6, 10, 11, 12] 13 rfl (by decide) (by rw [← hc]; rfl))
  · rcases (show i = 0 ∨ i = 1 ∨ i = 2 by omega) with rfl | rfl | rfl
    · have hc : cPeg ro po pg 1 = (po 1, .inr (0, [.ref (ro 0), .int (pa), .int (nI (ps)), .int (ph), .int (pt), .int (pm)])) := by unfold cPeg; rw [hg]; rfl
      exact pw_liftp (rst := ([1, 5, 6, 7, 8, 9, 11, 12].filterMap (fun k => (cW cI cP cR h qr qp ro ao po (md) (rc) (rw) (pg))[k]?))) hm (pw_perm_pl [0, 2, 10, 3, 4, 1, 5, 6, 7, 8, 9, 11, 12] 13 rfl (by decide) (by rw [← hc]; rfl))
    · have hc : cPeg ro po pg 1 = (po 1, .inr (0, [.ref (ro 1), .int (pa), .int (nI (ps)), .int (ph), .int (pt), .int (pm)])) := by unfold cPeg; rw [hg]; rfl
      exact pw_liftp (rst := ([1, 3, 4, 7, 8, 9, 11, 12].filterMap (fun k => (cW cI cP cR h qr qp ro ao po (md) (rc) (rw) (pg))[k]?))) hm (pw_perm_pl [0, 2, 10, 5, 6, 1, 3, 4, 7, 8, 9, 11, 12] 13 rfl (by decide) (by rw [← hc]; rfl))
    · have hc : cPeg ro po pg 1 = (po 1, .inr (0, [.ref (ro 2), .int (pa), .int (nI (ps)), .int (ph), .int (pt), .int (pm)])) := by unfold cPeg; rw [hg]; rfl
      exact pw_liftp (rst := ([1, 3, 4, 5, 6, 9, 11, 12].filterMap (fun k => (cW cI cP cR h qr qp ro ao po (md) (rc) (rw) (pg))[k]?))) hm (pw_perm_pl [0, 2, 10, 7, 8, 1, 3, 4, 5, 6, 9, 11, 12] 13 rfl (by decide) (by rw [← hc]; rfl))
  · rcases (show i = 0 ∨ i = 1 ∨ i = 2 by omega) with rfl | rfl | rfl
    · have hc : cPeg ro po pg 2 = (po 2, .inr (0, [.ref (ro 0), .int (pa), .int (nI (ps)), .int (ph), .int (pt), .int (pm)])) := by unfold cPeg; rw [hg]; rfl
      exact pw_liftp (rst := ([1, 5, 6, 7, 8, 9, 10, 12].filterMap (fun k => (cW cI cP cR h qr qp ro ao po (md) (rc) (rw) (pg))[k]?))) hm (pw_perm_pl [0, 2, 11, 3, 4, 1, 5, 6, 7, 8, 9, 10, 12] 13 rfl (by decide) (by rw [← hc]; rfl))
    · have hc : cPeg ro po pg 2 = (po 2, .inr (0, [.ref (ro 1), .int (pa), .int (nI (ps)), .int (ph), .int (pt), .int (pm)])) := by unfold cPeg; rw [hg]; rfl
      exact pw_liftp (rst := ([1, 3, 4, 7, 8, 9, 10, 12].filterMap (fun k => (cW cI cP cR h qr qp ro ao po (md) (rc) (rw) (pg))[k]?))) hm (pw_perm_pl [0, 2, 11, 5, 6, 1, 3, 4, 7, 8, 9, 10, 12] 13 rfl (by decide) (by rw [← hc]; rfl))
    · have hc : cPeg ro po pg 2 = (po 2, .inr (0, [.ref (ro 2), .int (pa), .int (nI (ps)), .int (ph), .int (pt), .int (pm)])) := by unfold cPeg; rw [hg]; rfl
      exact pw_liftp (rst := ([1, 3, 4, 5, 6, 9, 10, 12].filterMap (fun k => (cW cI cP cR h qr qp ro ao po (md) (rc) (rw) (pg))[k]?))) hm (pw_perm_pl [0, 2, 11, 7, 8, 1, 3, 4, 5, 6, 9, 10, 12] 13 rfl (by decide) (by rw [← hc]; rfl))
  · rcases (show i = 0 ∨ i = 1 ∨ i = 2 by omega) with rfl | rfl | rfl
    · have hc : cPeg ro po pg 3 = (po 3, .inr (0, [.ref (ro 0), .int (pa), .int (nI (ps)), .int (ph), .int (pt), .int (pm)])) := by unfold cPeg; rw [hg]; rfl
      exact pw_liftp (rst := ([1, 5, 6, 7, 8, 9, 10, 11].filterMap (fun k => (cW cI cP cR h qr qp ro ao po (md) (rc) (rw) (pg))[k]?))) hm (pw_perm_pl [0, 2, 12, 3, 4, 1, 5, 6, 7, 8, 9, 10, 11] 13 rfl (by decide) (by rw [← hc]; rfl))
    · have hc : cPeg ro po pg 3 = (po 3, .inr (0, [.ref (ro 1), .int (pa), .int (nI (ps)), .int (ph), .int (pt), .int (pm)])) := by unfold cPeg; rw [hg]; rfl
      exact pw_liftp (rst := ([1, 3, 4, 7, 8, 9, 10, 11].filterMap (fun k => (cW cI cP cR h qr qp ro ao po (md) (rc) (rw) (pg))[k]?))) hm (pw_perm_pl [0, 2, 12, 5, 6, 1, 3, 4, 7, 8, 9, 10, 11] 13 rfl (by decide) (by rw [← hc]; rfl))
    · have hc : cPeg ro po pg 3 = (po 3, .inr (0, [.ref (ro 2), .int (pa), .int (nI (ps)), .int (ph), .int (pt), .int (pm)])) := by unfold cPeg; rw [hg]; rfl
      exact pw_liftp (rst := ([1, 3, 4, 5, 6, 9, 10, 11].filterMap (fun k => (cW cI cP cR h qr qp ro ao po (md) (rc) (rw) (pg))[k]?))) hm (pw_perm_pl [0, 2, 12, 7, 8, 1, 3, 4, 5, 6, 9, 10, 11] 13 rfl (by decide) (by rw [← hc]; rfl))
set_option maxRecDepth 4000 in
theorem lPR {l : Launch} {y : MethodName} {ws : List Cond} {rm : Room} {D : va_G} {cI cP cR : ClassId} {h qr qp : Nat} {ro ao po : Nat → Nat} {md md2 : Nat} {rc rc2 : Nat → Int32} {rw : Nat → Nat × Nat × (Nat → Int32)} {pg : Nat → PgT} {as : List Value} {p i : Nat} {pa : Int32} {ps : Nat} {ph pt pm : Int32}  (hp4 : p < 4) (hi : i < 3) (hg : pg p = (some i, pa, ps, ph, pt, pm)) {V : Option Value} {n2 c2 : Nat} {f2 : Nat → Int32} {pa2 : Int32} {ps2 : Nat} {ph2 pt2 pm2 : Int32} (hm : pw_Mm l y ws rm D cI cP cR as [(h, .inr (2, [.ref qr, .ref qp, .int (nI (md)), .int ((rc) 0), .int ((rc) 1), .int ((rc) 2), .int ((rc) 3)])), (qp, .inl (cP, 4, .inr (.inr (.inr (.inr (fun i => some (po i))))))), (po p, .inr (0, [.ref (ro i), .int (pa), .int (nI (ps)), .int (ph), .int (pt), .int (pm)])), (ro i, .inr (1, [.ref (ao i), .int (nI ((rw i).1)), .int (nI ((rw i).2.1))])), (ao i, .inl (cI, 60, .inl ((rw i).2.2)))] (fun v w => v = V ∧ w = [(h, .inr (2, [.ref qr, .ref qp, .int (nI (md2)), .int ((rc2) 0), .int ((rc2) 1), .int ((rc2) 2), .int ((rc2) 3)])), (qp, .inl (cP, 4, .inr (.inr (.inr (.inr (fun i => some (po i))))))), (po p, .inr (0, [.ref (ro i), .int (pa2), .int (nI (ps2)), .int (ph2), .int (pt2), .int (pm2)])), (ro i, .inr (1, [.ref (ao i), .int (nI (n2)), .int (nI (c2))])), (ao i, .inl (cI, 60, .inl (f2)))])) : pw_Mm l y ws rm D cI cP cR as (cW cI cP cR h qr qp ro ao po (md) (rc) (rw) (pg)) (fun v w => v = V ∧ w = cW cI cP cR h qr qp ro ao po (md2) (rc2) (va_up rw i (n2, c2, f2)) (va_up pg p (some i, pa2, ps2, ph2, pt2, pm2))) := by
  rcases (show p = 0 ∨ p = 1 ∨ p = 2 ∨ p = 3 by omega) with rfl | rfl | rfl | rfl
  · rcases (show i = 0 ∨ i = 1 ∨ i = 2 by omega) with rfl | rfl | rfl
    · have hc : cPeg ro po pg 0 = (po 0, .inr (0, [.ref (ro 0), .int (pa), .int (nI (ps)), .int (ph), .int (pt), .int (pm)])) := by unfold cPeg; rw [hg]; rfl
      refine pw_lift (rst := ([1, 5, 6, 7, 8, 10, 11, 12].filterMap (fun k => (cW cI cP cR h qr qp ro ao po (md) (rc) (rw) (pg))[k]?))) hm (pw_perm_pl [0, 2, 9, 3, 4, 1, 5, 6, 7, 8, 10, 11, 12] 13 rfl (by decide) (by rw [← hc]; rfl)) (fun v w1 hq => ⟨_, ?_, hq.1, rfl⟩)
      obtain ⟨-, rfl⟩ := hq
      exact pw_perm_pl [0, 5, 1, 3, 4, 6, 7, 8, 9, 2, 10, 11, 12] 13 rfl (by decide) rfl
    · have hc : cPeg ro po pg 0 = (po 0, .inr (0, [.ref (ro 1), .int (pa), .int (nI (ps)), .int (ph), .int (pt), .int (pm)])) := by unfold cPeg; rw [hg]; rfl
      refine pw_lift (rst := ([1, 3, 4, 7, 8, 10, 11, 12].filterMap (fun k => (cW cI cP cR h qr qp ro ao po (md) (rc) (rw) (pg))[k]?))) hm (pw_perm_pl [0, 2, 9, 5, 6, 1, 3, 4, 7, 8, 10, 11, 12] 13 rfl (by decide) (by rw [← hc]; rfl)) (fun v w1 hq => ⟨_, ?_, hq.1, rfl⟩)
      obtain ⟨-, rfl⟩ := hq
      exact pw_perm_pl [0, 5, 1, 6, 7, 3, 4, 8, 9, 2, 10, 11, 12] 13 rfl (by decide) rfl
    · have hc : cPeg ro po pg 0 = (po 0, .inr (0, [.ref (ro 2), .int (pa), .int (nI (ps)), .int (ph), .int (pt), .int (pm)])) := by unfold cPeg; rw [hg]; rfl
      refine pw_lift (rst := ([1, 3, 4, 5, 6, 10, 11, 12].filterMap (fun k => (cW cI cP cR h qr qp ro ao po (md) (rc) (rw) (pg))[k]?))) hm (pw_perm_pl [0, 2, 9, 7, 8, 1, 3, 4, 5, 6, 10, 11, 12] 13 rfl (by decide) (by rw [← hc]; rfl)) (fun v w1 hq => ⟨_, ?_, hq.1, rfl⟩)
      obtain ⟨-, rfl⟩ := hq
      exact pw_perm_pl [0, 5, 1, 6, 7, 8, 9, 3, 4, 2, 10, 11, 12] 13 rfl (by decide) rfl
  · rcases (show i = 0 ∨ i = 1 ∨ i = 2 by omega) with rfl | rfl | rfl
    · have hc : cPeg ro po pg 1 = (po 1, .inr (0, [.ref (ro 0), .int (pa), .int (nI (ps)), .int (ph), .int (pt), .int (pm)])) := by unfold cPeg; rw [hg]; rfl
      refine pw_lift (rst := ([1, 5, 6, 7, 8, 9, 11, 12].filterMap (fun k => (cW cI cP cR h qr qp ro ao po (md) (rc) (rw) (pg))[k]?))) hm (pw_perm_pl [0, 2, 10, 3, 4, 1, 5, 6, 7, 8, 9, 11, 12] 13 rfl (by decide) (by rw [← hc]; rfl)) (fun v w1 hq => ⟨_, ?_, hq.1, rfl⟩)
      obtain ⟨-, rfl⟩ := hq
      exact pw_perm_pl [0, 5, 1, 3, 4, 6, 7, 8, 9, 10, 2, 11, 12] 13 rfl (by decide) rfl
    · have hc : cPeg ro po pg 1 = (po 1, .inr (0, [.ref (ro 1), .int (pa), .int (nI (ps)), .int (ph), .int (pt), .int (pm)])) := by unfold cPeg; rw [hg]; rfl
      refine pw_lift (rst := ([1, 3, 4, 7, 8, 9, 11, 12].filterMap (fun k => (cW cI cP cR h qr qp ro ao po (md) (rc) (rw) (pg))[k]?))) hm (pw_perm_pl [0, 2, 10, 5, 6, 1, 3, 4, 7, 8, 9, 11, 12] 13 rfl (by decide) (by rw [← hc]; rfl)) (fun v w1 hq => ⟨_, ?_, hq.1, rfl⟩)
      obtain ⟨-, rfl⟩ := hq
      exact pw_perm_pl [0, 5, 1, 6, 7, 3, 4, 8, 9, 10, 2, 11, 12] 13 rfl (by decide) rfl
    · have hc : cPeg ro po pg 1 = (po 1, .inr (0, [.ref (ro 2), .int (pa), .int (nI (ps)), .int (ph), .int (pt), .int (pm)])) := by unfold cPeg; rw [hg]; rfl
      refine pw_lift (rst := ([1, 3, 4, 5, 6, 9, 11, 12].filterMap (fun k => (cW cI cP cR h qr qp ro ao po (md) (rc) (rw) (pg))[k]?))) hm (pw_perm_pl [0, 2, 10, 7, 8, 1, 3, 4, 5, 6, 9, 11, 12] 13 rfl (by decide) (by rw [← hc]; rfl)) (fun v w1 hq => ⟨_, ?_, hq.1, rfl⟩)
      obtain ⟨-, rfl⟩ := hq
      exact pw_perm_pl [0, 5, 1, 6, 7, 8, 9, 3, 4, 10, 2, 11, 12] 13 rfl (by decide) rfl
  · rcases (show i = 0 ∨ i = 1 ∨ i = 2 by omega) with rfl | rfl | rfl
    · have hc : cPeg ro po pg 2 = (po 2, .inr (0, [.ref (ro 0), .int (pa), .int (nI (ps)), .int (ph), .int (pt), .int (pm)])) := by unfold cPeg; rw [hg]; rfl
      refine pw_lift (rst := ([1, 5, 6, 7, 8, 9, 10, 12].filterMap (fun k => (cW cI cP cR h qr qp ro ao po (md) (rc) (rw) (pg))[k]?))) hm (pw_perm_pl [0, 2, 11, 3, 4, 1, 5, 6, 7, 8, 9, 10, 12] 13 rfl (by decide) (by rw [← hc]; rfl)) (fun v w1 hq => ⟨_, ?_, hq.1, rfl⟩)
      obtain ⟨-, rfl⟩ := hq
      exact pw_perm_pl [0, 5, 1, 3, 4, 6, 7, 8, 9, 10, 11, 2, 12] 13 rfl (by decide) rfl
    · have hc : cPeg ro po pg 2 = (po 2, .inr (0, [.ref (ro 1), .int (pa), .int (nI (ps)), .int (ph), .int (pt), .int (pm)])) := by unfold cPeg; rw [hg]; rfl
      refine pw_lift (rst := ([1, 3, 4, 7, 8, 9, 10, 12].filterMap (fun k => (cW cI cP cR h qr qp ro ao po (md) (rc) (rw) (pg))[k]?))) hm (pw_perm_pl [0, 2, 11, 5, 6, 1, 3, 4, 7, 8, 9, 10, 12] 13 rfl (by decide) (by rw [← hc]; rfl)) (fun v w1 hq => ⟨_, ?_, hq.1, rfl⟩)
      obtain ⟨-, rfl⟩ := hq
      exact pw_perm_pl [0, 5, 1, 6, 7, 3, 4, 8, 9, 10, 11, 2, 12] 13 rfl (by decide) rfl
    · have hc : cPeg ro po pg 2 = (po 2, .inr (0, [.ref (ro 2), .int (pa), .int (nI (ps)), .int (ph), .int (pt), .int (pm)])) := by unfold cPeg; rw [hg]; rfl
      refine pw_lift (rst := ([1, 3, 4, 5, 6, 9, 10, 12].filterMap (fun k => (cW cI cP cR h qr qp ro ao po (md) (rc) (rw) (pg))[k]?))) hm (pw_perm_pl [0, 2, 11, 7, 8, 1, 3, 4, 5, 6, 9, 10, 12] 13 rfl (by decide) (by rw [← hc]; rfl)) (fun v w1 hq => ⟨_, ?_, hq.1, rfl⟩)
      obtain ⟨-, rfl⟩ := hq
      exact pw_perm_pl [0, 5, 1, 6, 7, 8, 9, 3, 4, 10, 11, 2, 12] 13 rfl (by decide) rfl
  · rcases (show i = 0 ∨ i = 1 ∨ i = 2 by omega) with rfl | rfl | rfl
    · have hc : cPeg ro po pg 3 = (po 3, .inr (0, [.ref (ro 0), .int (pa), .int (nI (ps)), .int (ph), .int (pt), .int (pm)])) := by unfold cPeg; rw [hg]; rfl
      refine pw_lift (rst := ([1, 5, 6, 7, 8, 9, 10, 11].filterMap (fun k => (cW cI cP cR h qr qp ro ao po (md) (rc) (rw) (pg))[k]?))) hm (pw_perm_pl [0, 2, 12, 3, 4, 1, 5, 6, 7, 8, 9, 10, 11] 13 rfl (by decide) (by rw [← hc]; rfl)) (fun v w1 hq => ⟨_, ?_, hq.1, rfl⟩)
      obtain ⟨-, rfl⟩ := hq
      exact pw_perm_pl [0, 5, 1, 3, 4, 6, 7, 8, 9, 10, 11, 12, 2] 13 rfl (by decide) rfl
    · have hc : cPeg ro po pg 3 = (po 3, .inr (0, [.ref (ro 1), .int (pa), .int (nI (ps)), .int (ph), .int (pt), .int (pm)])) := by unfold cPeg; rw [hg]; rfl
      refine pw_lift (rst := ([1, 3, 4, 7, 8, 9, 10, 11].filterMap (fun k => (cW cI cP cR h qr qp ro ao po (md) (rc) (rw) (pg))[k]?))) hm (pw_perm_pl [0, 2, 12, 5, 6, 1, 3, 4, 7, 8, 9, 10, 11] 13 rfl (by decide) (by rw [← hc]; rfl)) (fun v w1 hq => ⟨_, ?_, hq.1, rfl⟩)
      obtain ⟨-, rfl⟩ := hq
      exact pw_perm_pl [0, 5, 1, 6, 7, 3, 4, 8, 9, 10, 11, 12, 2] 13 rfl (by decide) rfl
    · have hc : cPeg ro po pg 3 = (po 3, .inr (0, [.ref (ro 2), .int (pa), .int (nI (ps)), .int (ph), .int (pt), .int (pm)])) := by unfold cPeg; rw [hg]; rfl
      refine pw_lift (rst := ([1, 3, 4, 5, 6, 9, 10, 11].filterMap (fun k => (cW cI cP cR h qr qp ro ao po (md) (rc) (rw) (pg))[k]?))) hm (pw_perm_pl [0, 2, 12, 7, 8, 1, 3, 4, 5, 6, 9, 10, 11] 13 rfl (by decide) (by rw [← hc]; rfl)) (fun v w1 hq => ⟨_, ?_, hq.1, rfl⟩)
      obtain ⟨-, rfl⟩ := hq
      exact pw_perm_pl [0, 5, 1, 6, 7, 8, 9, 3, 4, 10, 11, 12, 2] 13 rfl (by decide) rfl
set_option maxRecDepth 4000 in
theorem lPG_p {l : Launch} {y : MethodName} {ws : List Cond} {rm : Room} {D : va_G} {cI cP cR : ClassId} {h qr qp : Nat} {ro ao po : Nat → Nat} {md : Nat} {rc : Nat → Int32} {rw : Nat → Nat × Nat × (Nat → Int32)} {pg : Nat → PgT} {as : List Value} {p i : Nat} (hp4 : p < 4) (hi : i < 3) {v0 : Value} (hm : pw_Mp l y ws rm D cI cP cR as [(h, .inr (2, [.ref qr, .ref qp, .int (nI (md)), .int ((rc) 0), .int ((rc) 1), .int ((rc) 2), .int ((rc) 3)])), (qr, .inl (cR, 3, .inr (.inr (.inr (.inr (fun i => some (ro i))))))), (qp, .inl (cP, 4, .inr (.inr (.inr (.inr (fun i => some (po i))))))), (po p, .inr (0, [va_rf ((pg p).1.map ro), .int ((pg p).2.1), .int (nI ((pg p).2.2.1)), .int ((pg p).2.2.2.1), .int ((pg p).2.2.2.2.1), .int ((pg p).2.2.2.2.2)])), (ro i, .inr (1, [.ref (ao i), .int (nI ((rw i).1)), .int (nI ((rw i).2.1))])), (ao i, .inl (cI, 60, .inl ((rw i).2.2)))] v0) : pw_Mm l y ws rm D cI cP cR as (cW cI cP cR h qr qp ro ao po (md) (rc) (rw) (pg)) (fun v w => v = some v0 ∧ w = cW cI cP cR h qr qp ro ao po (md) (rc) (rw) (pg)) := by
  rcases (show p = 0 ∨ p = 1 ∨ p = 2 ∨ p = 3 by omega) with rfl | rfl | rfl | rfl
  · rcases (show i = 0 ∨ i = 1 ∨ i = 2 by omega) with rfl | rfl | rfl
    · exact pw_liftp (rst := ([5, 6, 7, 8, 10, 11, 12].filterMap (fun k => (cW cI cP cR h qr qp ro ao po (md) (rc) (rw) (pg))[k]?))) hm (pw_perm_pl [0, 1, 2, 9, 3, 4, 5, 6, 7, 8, 10, 11, 12] 13 rfl (by decide) (by rfl))
    · exact pw_liftp (rst := ([3, 4, 7, 8, 10, 11, 12].filterMap (fun k => (cW cI cP cR h qr qp ro ao po (md) (rc) (rw) (pg))[k]?))) hm (pw_perm_pl [0, 1, 2, 9, 5, 6, 3, 4, 7, 8, 10, 11, 12] 13 rfl (by decide) (by rfl))
    · exact pw_liftp (rst := ([3, 4, 5, 6, 10, 11, 12].filterMap (fun k => (cW cI cP cR h qr qp ro ao po (md) (rc) (rw) (pg))[k]?))) hm (pw_perm_pl [0, 1, 2, 9, 7, 8, 3, 4, 5, 6, 10, 11, 12] 13 rfl (by decide) (by rfl))
  · rcases (show i = 0 ∨ i = 1 ∨ i = 2 by omega) with rfl | rfl | rfl
    · exact pw_liftp (rst := ([5, 6, 7, 8, 9, 11, 12].filterMap (fun k => (cW cI cP cR h qr qp ro ao po (md) (rc) (rw) (pg))[k]?))) hm (pw_perm_pl [0, 1, 2, 10, 3, 4, 5, 6, 7, 8, 9, 11, 12] 13 rfl (by decide) (by rfl))
    · exact pw_liftp (rst := ([3, 4, 7, 8, 9, 11, 12].filterMap (fun k => (cW cI cP cR h qr qp ro ao po (md) (rc) (rw) (pg))[k]?))) hm (pw_perm_pl [0, 1, 2, 10, 5, 6, 3, 4, 7, 8, 9, 11, 12] 13 rfl (by decide) (by rfl))
    · exact pw_liftp (rst := ([3, 4, 5, 6, 9, 11, 12].filterMap (fun k => (cW cI cP cR h qr qp ro ao po (md) (rc) (rw) (pg))[k]?))) hm (pw_perm_pl [0, 1, 2, 10, 7, 8, 3, 4, 5, 6, 9, 11, 12] 13 rfl (by decide) (by rfl))
  · rcases (show i = 0 ∨ i = 1 ∨ i = 2 by omega) with rfl | rfl | rfl
    · exact pw_liftp (rst := ([5, 6, 7, 8, 9, 10, 12].filterMap (fun k => (cW cI cP cR h qr qp ro ao po (md) (rc) (rw) (pg))[k]?))) hm (pw_perm_pl [0, 1, 2, 11, 3, 4, 5, 6, 7, 8, 9, 10, 12] 13 rfl (by decide) (by rfl))
    · exact pw_liftp (rst := ([3, 4, 7, 8, 9, 10, 12].filterMap (fun k => (cW cI cP cR h qr qp ro ao po (md) (rc) (rw) (pg))[k]?))) hm (pw_perm_pl [0, 1, 2, 11, 5, 6, 3, 4, 7, 8, 9, 10, 12] 13 rfl (by decide) (by rfl))
    · exact pw_liftp (rst := ([3, 4, 5, 6, 9, 10, 12].filterMap (fun k => (cW cI cP cR h qr qp ro ao po (md) (rc) (rw) (pg))[k]?))) hm (pw_perm_pl [0, 1, 2, 11, 7, 8, 3, 4, 5, 6, 9, 10, 12] 13 rfl (by decide) (by rfl))
  · rcases (show i = 0 ∨ i = 1 ∨ i = 2 by omega) with rfl | rfl | rfl
    · exact pw_liftp (rst := ([5, 6, 7, 8, 9, 10, 11].filterMap (fun k => (cW cI cP cR h qr qp ro ao po (md) (rc) (rw) (pg))[k]?))) hm (pw_perm_pl [0, 1, 2, 12, 3, 4, 5, 6, 7, 8, 9, 10, 11] 13 rfl (by decide) (by rfl))
    · exact pw_liftp (rst := ([3, 4, 7, 8, 9, 10, 11].filterMap (fun k => (cW cI cP cR h qr qp ro ao po (md) (rc) (rw) (pg))[k]?))) hm (pw_perm_pl [0, 1, 2, 12, 5, 6, 3, 4, 7, 8, 9, 10, 11] 13 rfl (by decide) (by rfl))
    · exact pw_liftp (rst := ([3, 4, 5, 6, 9, 10, 11].filterMap (fun k => (cW cI cP cR h qr qp ro ao po (md) (rc) (rw) (pg))[k]?))) hm (pw_perm_pl [0, 1, 2, 12, 7, 8, 3, 4, 5, 6, 9, 10, 11] 13 rfl (by decide) (by rfl))
set_option maxRecDepth 4000 in
theorem lPG {l : Launch} {y : MethodName} {ws : List Cond} {rm : Room} {D : va_G} {cI cP cR : ClassId} {h qr qp : Nat} {ro ao po : Nat → Nat} {md md2 : Nat} {rc rc2 : Nat → Int32} {rw : Nat → Nat × Nat × (Nat → Int32)} {pg : Nat → PgT} {as : List Value} {p i : Nat} (hp4 : p < 4) (hi : i < 3) {V : Option Value} {pa2 : Int32} {ps2 : Nat} {ph2 pt2 pm2 : Int32} (hm : pw_Mm l y ws rm D cI cP cR as [(h, .inr (2, [.ref qr, .ref qp, .int (nI (md)), .int ((rc) 0), .int ((rc) 1), .int ((rc) 2), .int ((rc) 3)])), (qr, .inl (cR, 3, .inr (.inr (.inr (.inr (fun i => some (ro i))))))), (qp, .inl (cP, 4, .inr (.inr (.inr (.inr (fun i => some (po i))))))), (po p, .inr (0, [va_rf ((pg p).1.map ro), .int ((pg p).2.1), .int (nI ((pg p).2.2.1)), .int ((pg p).2.2.2.1), .int ((pg p).2.2.2.2.1), .int ((pg p).2.2.2.2.2)])), (ro i, .inr (1, [.ref (ao i), .int (nI ((rw i).1)), .int (nI ((rw i).2.1))])), (ao i, .inl (cI, 60, .inl ((rw i).2.2)))] (fun v w => v = V ∧ w = [(h, .inr (2, [.ref qr, .ref qp, .int (nI (md2)), .int ((rc2) 0), .int ((rc2) 1), .int ((rc2) 2), .int ((rc2) 3)])), (qr, .inl (cR, 3, .inr (.inr (.inr (.inr (fun i => some (ro i))))))), (qp, .inl (cP, 4, .inr (.inr (.inr (.inr (fun i => some (po i))))))), (po p, .inr (0, [.ref (ro i), .int (pa2), .int (nI (ps2)), .int (ph2), .int (pt2), .int (pm2)])), (ro i, .inr (1, [.ref (ao i), .int (nI ((rw i).1)), .int (nI ((rw i).2.1))])), (ao i, .inl (cI, 60, .inl ((rw i).2.2)))])) : pw_Mm l y ws rm D cI cP cR as (cW cI cP cR h qr qp ro ao po (md) (rc) (rw) (pg)) (fun v w => v = V ∧ w = cW cI cP cR h qr qp ro ao po (md2) (rc2) (rw) (va_up pg p (some i, pa2, ps2, ph2, pt2, pm2))) := by
  rcases (show p = 0 ∨ p = 1 ∨ p = 2 ∨ p = 3 by omega) with rfl | rfl | rfl | rfl
  · rcases (show i = 0 ∨ i = 1 ∨ i = 2 by omega) with rfl | rfl | rfl
    · refine pw_lift (rst := ([5, 6, 7, 8, 10, 11, 12].filterMap (fun k => (cW cI cP cR h qr qp ro ao po (md) (rc) (rw) (pg))[k]?))) hm (pw_perm_pl [0, 1, 2, 9, 3, 4, 5, 6, 7, 8, 10, 11, 12] 13 rfl (by decide) (by rfl)) (fun v w1 hq => ⟨_, ?_, hq.1, rfl⟩)
      obtain ⟨-, rfl⟩ := hq
      exact pw_perm_pl [0, 1, 2, 4, 5, 6, 7, 8, 9, 3, 10, 11, 12] 13 rfl (by decide) rfl
    · refine pw_lift (rst := ([3, 4, 7, 8, 10, 11, 12].filterMap (fun k => (cW cI cP cR h qr qp ro ao po (md) (rc) (rw) (pg))[k]?))) hm (pw_perm_pl [0, 1, 2, 9, 5, 6, 3, 4, 7, 8, 10, 11, 12] 13 rfl (by decide) (by rfl)) (fun v w1 hq => ⟨_, ?_, hq.1, rfl⟩)
      obtain ⟨-, rfl⟩ := hq
      exact pw_perm_pl [0, 1, 2, 6, 7, 4, 5, 8, 9, 3, 10, 11, 12] 13 rfl (by decide) rfl
    · refine pw_lift (rst := ([3, 4, 5, 6, 10, 11, 12].filterMap (fun k => (cW cI cP cR h qr qp ro ao po (md) (rc) (rw) (pg))[k]?))) hm (pw_perm_pl [0, 1, 2, 9, 7, 8, 3, 4, 5, 6, 10, 11, 12] 13 rfl (by decide) (by rfl)) (fun v w1 hq => ⟨_, ?_, hq.1, rfl⟩)
      obtain ⟨-, rfl⟩ := hq
      exact pw_perm_pl [0, 1, 2, 6, 7, 8, 9, 4, 5, 3, 10, 11, 12] 13 rfl (by decide) rfl
  · rcases (show i = 0 ∨ i = 1 ∨ i = 2 by omega) with rfl | rfl | rfl
    · refine pw_lift (rst := ([5, 6, 7, 8, 9, 11, 12].filterMap (fun k => (cW cI cP cR h qr qp ro ao po (md) (rc) (rw) (pg))[k]?))) hm (pw_perm_pl [0, 1, 2, 10, 3, 4, 5, 6, 7, 8, 9, 11, 12] 13 rfl (by decide) (by rfl)) (fun v w1 hq => ⟨_, ?_, hq.1, rfl⟩)
      obtain ⟨-, rfl⟩ := hq
      exact pw_perm_pl [0, 1, 2, 4, 5, 6, 7, 8, 9, 10, 3, 11, 12] 13 rfl (by decide) rfl
    · refine pw_lift (rst := ([3, 4, 7, 8, 9, 11, 12].filterMap (fun k => (cW cI cP cR h qr qp ro ao po (md) (rc) (rw) (pg))[k]?))) hm (pw_perm_pl [0, 1, 2, 10, 5, 6, 3, 4, 7, 8, 9, 11, 12] 13 rfl (by decide) (by rfl)) (fun v w1 hq => ⟨_, ?_, hq.1, rfl⟩)
      obtain ⟨-, rfl⟩ := hq
      exact pw_perm_pl [0, 1, 2, 6, 7, 4, 5, 8, 9, 10, 3, 11, 12] 13 rfl (by decide) rfl
    · refine pw_lift (rst := ([3, 4, 5, 6, 9, 11, 12].filterMap (fun k => (cW cI cP cR h qr qp ro ao po (md) (rc) (rw) (pg))[k]?))) hm (pw_perm_pl [0, 1, 2, 10, 7, 8, 3, 4, 5, 6, 9, 11, 12] 13 rfl (by decide) (by rfl)) (fun v w1 hq => ⟨_, ?_, hq.1, rfl⟩)
      obtain ⟨-, rfl⟩ := hq
      exact pw_perm_pl [0, 1, 2, 6, 7, 8, 9, 4, 5, 10, 3, 11, 12] 13 rfl (by decide) rfl
  · rcases (show i = 0 ∨ i = 1 ∨ i = 2 by omega) with rfl | rfl | rfl
    · refine pw_lift (rst := ([5, 6, 7, 8, 9, 10, 12].filterMap (fun k => (cW cI cP cR h qr qp ro ao po (md) (rc) (rw) (pg))[k]?))) hm (pw_perm_pl [0, 1, 2, 11, 3, 4, 5, 6, 7, 8, 9, 10, 12] 13 rfl (by decide) (by rfl)) (fun v w1 hq => ⟨_, ?_, hq.1, rfl⟩)
      obtain ⟨-, rfl⟩ := hq
      exact pw_perm_pl [0, 1, 2, 4, 5, 6, 7, 8, 9, 10, 11, 3, 12] 13 rfl (by decide) rfl
    · refine pw_lift (rst := ([3, 4, 7, 8, 9, 10, 12].filterMap (fun k => (cW cI cP cR h qr qp ro ao po (md) (rc) (rw) (pg))[k]?))) hm (pw_perm_pl [0, 1, 2, 11, 5, 6, 3, 4, 7, 8, 9, 10, 12] 13 rfl (by decide) (by rfl)) (fun v w1 hq => ⟨_, ?_, hq.1, rfl⟩)
      obtain ⟨-, rfl⟩ := hq
      exact pw_perm_pl [0, 1, 2, 6, 7, 4, 5, 8, 9, 10, 11, 3, 12] 13 rfl (by decide) rfl
    · refine pw_lift (rst := ([3, 4, 5, 6, 9, 10, 12].filterMap (fun k => (cW cI cP cR h qr qp ro ao po (md) (rc) (rw) (pg))[k]?))) hm (pw_perm_pl [0, 1, 2, 11, 7, 8, 3, 4, 5, 6, 9, 10, 12] 13 rfl (by decide) (by rfl)) (fun v w1 hq => ⟨_, ?_, hq.1, rfl⟩)
      obtain ⟨-, rfl⟩ := hq
      exact pw_perm_pl [0, 1, 2, 6, 7, 8, 9, 4, 5, 10, 11, 3, 12] 13 rfl (by decide) rfl
  · rcases (show i = 0 ∨ i = 1 ∨ i = 2 by omega) with rfl | rfl | rfl
    · refine pw_lift (rst := ([5, 6, 7, 8, 9, 10, 11].filterMap (fun k => (cW cI cP cR h qr qp ro ao po (md) (rc) (rw) (pg))[k]?))) hm (pw_perm_pl [0, 1, 2, 12, 3, 4, 5, 6, 7, 8, 9, 10, 11] 13 rfl (by decide) (by rfl)) (fun v w1 hq => ⟨_, ?_, hq.1, rfl⟩)
      obtain ⟨-, rfl⟩ := hq
      exact pw_perm_pl [0, 1, 2, 4, 5, 6, 7, 8, 9, 10, 11, 12, 3] 13 rfl (by decide) rfl
    · refine pw_lift (rst := ([3, 4, 7, 8, 9, 10, 11].filterMap (fun k => (cW cI cP cR h qr qp ro ao po (md) (rc) (rw) (pg))[k]?))) hm (pw_perm_pl [0, 1, 2, 12, 5, 6, 3, 4, 7, 8, 9, 10, 11] 13 rfl (by decide) (by rfl)) (fun v w1 hq => ⟨_, ?_, hq.1, rfl⟩)
      obtain ⟨-, rfl⟩ := hq
      exact pw_perm_pl [0, 1, 2, 6, 7, 4, 5, 8, 9, 10, 11, 12, 3] 13 rfl (by decide) rfl
    · refine pw_lift (rst := ([3, 4, 5, 6, 9, 10, 11].filterMap (fun k => (cW cI cP cR h qr qp ro ao po (md) (rc) (rw) (pg))[k]?))) hm (pw_perm_pl [0, 1, 2, 12, 7, 8, 3, 4, 5, 6, 9, 10, 11] 13 rfl (by decide) (by rfl)) (fun v w1 hq => ⟨_, ?_, hq.1, rfl⟩)
      obtain ⟨-, rfl⟩ := hq
      exact pw_perm_pl [0, 1, 2, 6, 7, 8, 9, 4, 5, 10, 11, 12, 3] 13 rfl (by decide) rfl
set_option maxRecDepth 4000 in
theorem lPGr_p {l : Launch} {y : MethodName} {ws : List Cond} {rm : Room} {D : va_G} {cI cP cR : ClassId} {h qr qp : Nat} {ro ao po : Nat → Nat} {md : Nat} {rc : Nat → Int32} {rw : Nat → Nat × Nat × (Nat → Int32)} {pg : Nat → PgT} {as : List Value} {p i : Nat} (hp4 : p < 4) (hi : i < 3) {v0 : Value} (hm : pw_Mp l y ws rm D cI cP cR as [(h, .inr (2, [.ref qr, .ref qp, .int (nI (md)), .int ((rc) 0), .int ((rc) 1), .int ((rc) 2), .int ((rc) 3)])), (qr, .inl (cR, 3, .inr (.inr (.inr (.inr (fun i => some (ro i))))))), (qp, .inl (cP, 4, .inr (.inr (.inr (.inr (fun i => some (po i))))))), (po p, .inr (0, [va_rf ((pg p).1.map ro), .int ((pg p).2.1), .int (nI ((pg p).2.2.1)), .int ((pg p).2.2.2.1), .int ((pg p).2.2.2.2.1), .int ((pg p).2.2.2.2.2)])), (ro i, .inr (1, [.ref (ao i), .int (nI ((rw i).1)), .int (nI ((rw i).2.1))])), (ao i, .inl (cI, 60, .inl ((rw i).2.2)))] v0) : pw_Mm l y ws rm D cI cP cR as (cW cI cP cR h qr qp ro ao po (md) (rc) (rw) (pg)) (fun v w => v = some v0 ∧ w = cW cI cP cR h qr qp ro ao po (md) (rc) (rw) (pg)) := by
  rcases (show p = 0 ∨ p = 1 ∨ p = 2 ∨ p = 3 by omega) with rfl | rfl | rfl | rfl
  · rcases (show i = 0 ∨ i = 1 ∨ i = 2 by omega) with rfl | rfl | rfl
    · exact pw_liftp (rst := ([5, 6, 7, 8, 10, 11, 12].filterMap (fun k => (cW cI cP cR h qr qp ro ao po (md) (rc) (rw) (pg))[k]?))) hm (pw_perm_pl [0, 1, 2, 9, 3, 4, 5, 6, 7, 8, 10, 11, 12] 13 rfl (by decide) (by rfl))
    · exact pw_liftp (rst := ([3, 4, 7, 8, 10, 11, 12].filterMap (fun k => (cW cI cP cR h qr qp ro ao po (md) (rc) (rw) (pg))[k]?))) hm (pw_perm_pl [0, 1, 2, 9, 5, 6, 3, 4, 7, 8, 10, 11, 12] 13 rfl (by decide) (by rfl))
    · exact pw_liftp (rst := ([3, 4, 5, 6, 10, 11, 12].filterMap (fun k => (cW cI cP cR h qr qp ro ao po (md) (rc) (rw) (pg))[k]?))) hm (pw_perm_pl [0, 1, 2, 9, 7, 8, 3, 4, 5, 6, 10, 11, 12] 13 rfl (by decide) (by rfl))
  · rcases (show i = 0 ∨ i = 1 ∨ i = 2 by omega) with rfl | rfl | rfl
    · exact pw_liftp (rst := ([5, 6, 7, 8, 9, 11, 12].filterMap (fun k => (cW cI cP cR h qr qp ro ao po (md) (rc) (rw) (pg))[k]?))) hm (pw_perm_pl [0, 1, 2, 10, 3, 4, 5, 6, 7, 8, 9, 11, 12] 13 rfl (by decide) (by rfl))
    · exact pw_liftp (rst := ([3, 4, 7, 8, 9, 11, 12].filterMap (fun k => (cW cI cP cR h qr qp ro ao po (md) (rc) (rw) (pg))[k]?))) hm (pw_perm_pl [0, 1, 2, 10, 5, 6, 3, 4, 7, 8, 9, 11, 12] 13 rfl (by decide) (by rfl))
    · exact pw_liftp (rst := ([3, 4, 5, 6, 9, 11, 12].filterMap (fun k => (cW cI cP cR h qr qp ro ao po (md) (rc) (rw) (pg))[k]?))) hm (pw_perm_pl [0, 1, 2, 10, 7, 8, 3, 4, 5, 6, 9, 11, 12] 13 rfl (by decide) (by rfl))
  · rcases (show i = 0 ∨ i = 1 ∨ i = 2 by omega) with rfl | rfl | rfl
    · exact pw_liftp (rst := ([5, 6, 7, 8, 9, 10, 12].filterMap (fun k => (cW cI cP cR h qr qp ro ao po (md) (rc) (rw) (pg))[k]?))) hm (pw_perm_pl [0, 1, 2, 11, 3, 4, 5, 6, 7, 8, 9, 10, 12] 13 rfl (by decide) (by rfl))
    · exact pw_liftp (rst := ([3, 4, 7, 8, 9, 10, 12].filterMap (fun k => (cW cI cP cR h qr qp ro ao po (md) (rc) (rw) (pg))[k]?))) hm (pw_perm_pl [0, 1, 2, 11, 5, 6, 3, 4, 7, 8, 9, 10, 12] 13 rfl (by decide) (by rfl))
    · exact pw_liftp (rst := ([3, 4, 5, 6, 9, 10, 12].filterMap (fun k => (cW cI cP cR h qr qp ro ao po (md) (rc) (rw) (pg))[k]?))) hm (pw_perm_pl [0, 1, 2, 11, 7, 8, 3, 4, 5, 6, 9, 10, 12] 13 rfl (by decide) (by rfl))
  · rcases (show i = 0 ∨ i = 1 ∨ i = 2 by omega) with rfl | rfl | rfl
    · exact pw_liftp (rst := ([5, 6, 7, 8, 9, 10, 11].filterMap (fun k => (cW cI cP cR h qr qp ro ao po (md) (rc) (rw) (pg))[k]?))) hm (pw_perm_pl [0, 1, 2, 12, 3, 4, 5, 6, 7, 8, 9, 10, 11] 13 rfl (by decide) (by rfl))
    · exact pw_liftp (rst := ([3, 4, 7, 8, 9, 10, 11].filterMap (fun k => (cW cI cP cR h qr qp ro ao po (md) (rc) (rw) (pg))[k]?))) hm (pw_perm_pl [0, 1, 2, 12, 5, 6, 3, 4, 7, 8, 9, 10, 11] 13 rfl (by decide) (by rfl))
    · exact pw_liftp (rst := ([3, 4, 5, 6, 9, 10, 11].filterMap (fun k => (cW cI cP cR h qr qp ro ao po (md) (rc) (rw) (pg))[k]?))) hm (pw_perm_pl [0, 1, 2, 12, 7, 8, 3, 4, 5, 6, 9, 10, 11] 13 rfl (by decide) (by rfl))
set_option maxRecDepth 4000 in
theorem lPGr {l : Launch} {y : MethodName} {ws : List Cond} {rm : Room} {D : va_G} {cI cP cR : ClassId} {h qr qp : Nat} {ro ao po : Nat → Nat} {md md2 : Nat} {rc rc2 : Nat → Int32} {rw : Nat → Nat × Nat × (Nat → Int32)} {pg : Nat → PgT} {as : List Value} {p i : Nat} (hp4 : p < 4) (hi : i < 3) {V : Option Value} (hm : pw_Mm l y ws rm D cI cP cR as [(h, .inr (2, [.ref qr, .ref qp, .int (nI (md)), .int ((rc) 0), .int ((rc) 1), .int ((rc) 2), .int ((rc) 3)])), (qr, .inl (cR, 3, .inr (.inr (.inr (.inr (fun i => some (ro i))))))), (qp, .inl (cP, 4, .inr (.inr (.inr (.inr (fun i => some (po i))))))), (po p, .inr (0, [va_rf ((pg p).1.map ro), .int ((pg p).2.1), .int (nI ((pg p).2.2.1)), .int ((pg p).2.2.2.1), .int ((pg p).2.2.2.2.1), .int ((pg p).2.2.2.2.2)])), (ro i, .inr (1, [.ref (ao i), .int (nI ((rw i).1)), .int (nI ((rw i).2.1))])), (ao i, .inl (cI, 60, .inl ((rw i).2.2)))] (fun v w => v = V ∧ w = [(h, .inr (2, [.ref qr, .ref qp, .int (nI (md2)), .int ((rc2) 0), .int ((rc2) 1), .int ((rc2) 2), .int ((rc2) 3)])), (qr, .inl (cR, 3, .inr (.inr (.inr (.inr (fun i => some (ro i))))))), (qp, .inl (cP, 4, .inr (.inr (.inr (.inr (fun i => some (po i))))))), (po p, .inr (0, [va_rf ((pg p).1.map ro), .int ((pg p).2.1), .int (nI ((pg p).2.2.1)), .int ((pg p).2.2.2.1), .int ((pg p).2.2.2.2.1), .int ((pg p).2.2.2.2.2)])), (ro i, .inr (1, [.ref (ao i), .int (nI ((rw i).1)), .int (nI ((rw i).2.1))])), (ao i, .inl (cI, 60, .inl ((rw i).2.2)))])) : pw_Mm l y ws rm D cI cP cR as (cW cI cP cR h qr qp ro ao po (md) (rc) (rw) (pg)) (fun v w => v = V ∧ w = cW cI cP cR h qr qp ro ao po (md2) (rc2) (rw) (pg)) := by
  rcases (show p = 0 ∨ p = 1 ∨ p = 2 ∨ p = 3 by omega) with rfl | rfl | rfl | rfl
  · rcases (show i = 0 ∨ i = 1 ∨ i = 2 by omega) with rfl | rfl | rfl
    · refine pw_lift (rst := ([5, 6, 7, 8, 10, 11, 12].filterMap (fun k => (cW cI cP cR h qr qp ro ao po (md) (rc) (rw) (pg))[k]?))) hm (pw_perm_pl [0, 1, 2, 9, 3, 4, 5, 6, 7, 8, 10, 11, 12] 13 rfl (by decide) (by rfl)) (fun v w1 hq => ⟨_, ?_, hq.1, rfl⟩)
      obtain ⟨-, rfl⟩ := hq
      exact pw_perm_pl [0, 1, 2, 4, 5, 6, 7, 8, 9, 3, 10, 11, 12] 13 rfl (by decide) rfl
    · refine pw_lift (rst := ([3, 4, 7, 8, 10, 11, 12].filterMap (fun k => (cW cI cP cR h qr qp ro ao po (md) (rc) (rw) (pg))[k]?))) hm (pw_perm_pl [0, 1, 2, 9, 5, 6, 3, 4, 7, 8, 10, 11, 12] 13 rfl (by decide) (by rfl)) (fun v w1 hq => ⟨_, ?_, hq.1, rfl⟩)
      obtain ⟨-, rfl⟩ := hq
      exact pw_perm_pl [0, 1, 2, 6, 7, 4, 5, 8, 9, 3, 10, 11, 12] 13 rfl (by decide) rfl
    · refine pw_lift (rst := ([3, 4, 5, 6, 10, 11, 12].filterMap (fun k => (cW cI cP cR h qr qp ro ao po (md) (rc) (rw) (pg))[k]?))) hm (pw_perm_pl [0, 1, 2, 9, 7, 8, 3, 4, 5, 6, 10, 11, 12] 13 rfl (by decide) (by rfl)) (fun v w1 hq => ⟨_, ?_, hq.1, rfl⟩)
      obtain ⟨-, rfl⟩ := hq
      exact pw_perm_pl [0, 1, 2, 6, 7, 8, 9, 4, 5, 3, 10, 11, 12] 13 rfl (by decide) rfl
  · rcases (show i = 0 ∨ i = 1 ∨ i = 2 by omega) with rfl | rfl | rfl
    · refine pw_lift (rst := ([5, 6, 7, 8, 9, 11, 12].filterMap (fun k => (cW cI cP cR h qr qp ro ao po (md) (rc) (rw) (pg))[k]?))) hm (pw_perm_pl [0, 1, 2, 10, 3, 4, 5, 6, 7, 8, 9, 11, 12] 13 rfl (by decide) (by rfl)) (fun v w1 hq => ⟨_, ?_, hq.1, rfl⟩)
      obtain ⟨-, rfl⟩ := hq
      exact pw_perm_pl [0, 1, 2, 4, 5, 6, 7, 8, 9, 10, 3, 11, 12] 13 rfl (by decide) rfl
    · refine pw_lift (rst := ([3, 4, 7, 8, 9, 11, 12].filterMap (fun k => (cW cI cP cR h qr qp ro ao po (md) (rc) (rw) (pg))[k]?))) hm (pw_perm_pl [0, 1, 2, 10, 5, 6, 3, 4, 7, 8, 9, 11, 12] 13 rfl (by decide) (by rfl)) (fun v w1 hq => ⟨_, ?_, hq.1, rfl⟩)
      obtain ⟨-, rfl⟩ := hq
      exact pw_perm_pl [0, 1, 2, 6, 7, 4, 5, 8, 9, 10, 3, 11, 12] 13 rfl (by decide) rfl
    · refine pw_lift (rst := ([3, 4, 5, 6, 9, 11, 12].filterMap (fun k => (cW cI cP cR h qr qp ro ao po (md) (rc) (rw) (pg))[k]?))) hm (pw_perm_pl [0, 1, 2, 10, 7, 8, 3, 4, 5, 6, 9, 11, 12] 13 rfl (by decide) (by rfl)) (fun v w1 hq => ⟨_, ?_, hq.1, rfl⟩)
      obtain ⟨-, rfl⟩ := hq
      exact pw_perm_pl [0, 1, 2, 6, 7, 8, 9, 4, 5, 10, 3, 11, 12] 13 rfl (by decide) rfl
  · rcases (show i = 0 ∨ i = 1 ∨ i = 2 by omega) with rfl | rfl | rfl
    · refine pw_lift (rst := ([5, 6, 7, 8, 9, 10, 12].filterMap (fun k => (cW cI cP cR h qr qp ro ao po (md) (rc) (rw) (pg))[k]?))) hm (pw_perm_pl [0, 1, 2, 11, 3, 4, 5, 6, 7, 8, 9, 10, 12] 13 rfl (by decide) (by rfl)) (fun v w1 hq => ⟨_, ?_, hq.1, rfl⟩)
      obtain ⟨-, rfl⟩ := hq
      exact pw_perm_pl [0, 1, 2, 4, 5, 6, 7, 8, 9, 10, 11, 3, 12] 13 rfl (by decide) rfl
    · refine pw_lift (rst := ([3, 4, 7, 8, 9, 10, 12].filterMap (fun k => (cW cI cP cR h qr qp ro ao po (md) (rc) (rw) (pg))[k]?))) hm (pw_perm_pl [0, 1, 2, 11, 5, 6, 3, 4, 7, 8, 9, 10, 12] 13 rfl (by decide) (by rfl)) (fun v w1 hq => ⟨_, ?_, hq.1, rfl⟩)
      obtain ⟨-, rfl⟩ := hq
      exact pw_perm_pl [0, 1, 2, 6, 7, 4, 5, 8, 9, 10, 11, 3, 12] 13 rfl (by decide) rfl
    · refine pw_lift (rst := ([3, 4, 5, 6, 9, 10, 12].filterMap (fun k => (cW cI cP cR h qr qp ro ao po (md) (rc) (rw) (pg))[k]?))) hm (pw_perm_pl [0, 1, 2, 11, 7, 8, 3, 4, 5, 6, 9, 10, 12] 13 rfl (by decide) (by rfl)) (fun v w1 hq => ⟨_, ?_, hq.1, rfl⟩)
      obtain ⟨-, rfl⟩ := hq
      exact pw_perm_pl [0, 1, 2, 6, 7, 8, 9, 4, 5, 10, 11, 3, 12] 13 rfl (by decide) rfl
  · rcases (show i = 0 ∨ i = 1 ∨ i = 2 by omega) with rfl | rfl | rfl
    · refine pw_lift (rst := ([5, 6, 7, 8, 9, 10, 11].filterMap (fun k => (cW cI cP cR h qr qp ro ao po (md) (rc) (rw) (pg))[k]?))) hm (pw_perm_pl [0, 1, 2, 12, 3, 4, 5, 6, 7, 8, 9, 10, 11] 13 rfl (by decide) (by rfl)) (fun v w1 hq => ⟨_, ?_, hq.1, rfl⟩)
      obtain ⟨-, rfl⟩ := hq
      exact pw_perm_pl [0, 1, 2, 4, 5, 6, 7, 8, 9, 10, 11, 12, 3] 13 rfl (by decide) rfl
    · refine pw_lift (rst := ([3, 4, 7, 8, 9, 10, 11].filterMap (fun k => (cW cI cP cR h qr qp ro ao po (md) (rc) (rw) (pg))[k]?))) hm (pw_perm_pl [0, 1, 2, 12, 5, 6, 3, 4, 7, 8, 9, 10, 11] 13 rfl (by decide) (by rfl)) (fun v w1 hq => ⟨_, ?_, hq.1, rfl⟩)
      obtain ⟨-, rfl⟩ := hq
      exact pw_perm_pl [0, 1, 2, 6, 7, 4, 5, 8, 9, 10, 11, 12, 3] 13 rfl (by decide) rfl
    · refine pw_lift (rst := ([3, 4, 5, 6, 9, 10, 11].filterMap (fun k => (cW cI cP cR h qr qp ro ao po (md) (rc) (rw) (pg))[k]?))) hm (pw_perm_pl [0, 1, 2, 12, 7, 8, 3, 4, 5, 6, 9, 10, 11] 13 rfl (by decide) (by rfl)) (fun v w1 hq => ⟨_, ?_, hq.1, rfl⟩)
      obtain ⟨-, rfl⟩ := hq
      exact pw_perm_pl [0, 1, 2, 6, 7, 8, 9, 4, 5, 10, 11, 12, 3] 13 rfl (by decide) rfl
def pgL (pg : Nat → PgT) (i : Nat) : Nat → PgT := fun k => (if (pg k).1 = some i then none else (pg k).1, (pg k).2)
set_option maxRecDepth 4000 in
theorem lCP_p {l : Launch} {y : MethodName} {ws : List Cond} {rm : Room} {D : va_G} {cI cP cR : ClassId} {h qr qp : Nat} {ro ao po : Nat → Nat} {md : Nat} {rc : Nat → Int32} {rw : Nat → Nat × Nat × (Nat → Int32)} {pg : Nat → PgT} {as : List Value} {i j : Nat} (hi : i < 3) (hj : j < 3) (hne : ¬ i = j) {v0 : Value} (hm : pw_Mp l y ws rm D cI cP cR as [(h, .inr (2, [.ref qr, .ref qp, .int (nI (md)), .int ((rc) 0), .int ((rc) 1), .int ((rc) 2), .int ((rc) 3)])), (qr, .inl (cR, 3, .inr (.inr (.inr (.inr (fun i => some (ro i))))))), (qp, .inl (cP, 4, .inr (.inr (.inr (.inr (fun i => some (po i))))))), (po 0, .inr (0, [va_rf ((pg 0).1.map ro), .int ((pg 0).2.1), .int (nI ((pg 0).2.2.1)), .int ((pg 0).2.2.2.1), .int ((pg 0).2.2.2.2.1), .int ((pg 0).2.2.2.2.2)])), (po 1, .inr (0, [va_rf ((pg 1).1.map ro), .int ((pg 1).2.1), .int (nI ((pg 1).2.2.1)), .int ((pg 1).2.2.2.1), .int ((pg 1).2.2.2.2.1), .int ((pg 1).2.2.2.2.2)])), (po 2, .inr (0, [va_rf ((pg 2).1.map ro), .int ((pg 2).2.1), .int (nI ((pg 2).2.2.1)), .int ((pg 2).2.2.2.1), .int ((pg 2).2.2.2.2.1), .int ((pg 2).2.2.2.2.2)])), (po 3, .inr (0, [va_rf ((pg 3).1.map ro), .int ((pg 3).2.1), .int (nI ((pg 3).2.2.1)), .int ((pg 3).2.2.2.1), .int ((pg 3).2.2.2.2.1), .int ((pg 3).2.2.2.2.2)])), (ro i, .inr (1, [.ref (ao i), .int (nI ((rw i).1)), .int (nI ((rw i).2.1))])), (ao i, .inl (cI, 60, .inl ((rw i).2.2))), (ro j, .inr (1, [.ref (ao j), .int (nI ((rw j).1)), .int (nI ((rw j).2.1))])), (ao j, .inl (cI, 60, .inl ((rw j).2.2)))] v0) : pw_Mm l y ws rm D cI cP cR as (cW cI cP cR h qr qp ro ao po (md) (rc) (rw) (pg)) (fun v w => v = some v0 ∧ w = cW cI cP cR h qr qp ro ao po (md) (rc) (rw) (pg)) := by
  rcases (show i = 0 ∨ i = 1 ∨ i = 2 by omega) with rfl | rfl | rfl
  · rcases (show j = 1 ∨ j = 2 by omega) with rfl | rfl
    · exact pw_liftp (rst := ([7, 8].filterMap (fun k => (cW cI cP cR h qr qp ro ao po (md) (rc) (rw) (pg))[k]?))) hm (pw_perm_pl [0, 1, 2, 9, 10, 11, 12, 3, 4, 5, 6, 7, 8] 13 rfl (by decide) (by rfl))
    · exact pw_liftp (rst := ([5, 6].filterMap (fun k => (cW cI cP cR h qr qp ro ao po (md) (rc) (rw) (pg))[k]?))) hm (pw_perm_pl [0, 1, 2, 9, 10, 11, 12, 3, 4, 7, 8, 5, 6] 13 rfl (by decide) (by rfl))
  · rcases (show j = 0 ∨ j = 2 by omega) with rfl | rfl
    · exact pw_liftp (rst := ([7, 8].filterMap (fun k => (cW cI cP cR h qr qp ro ao po (md) (rc) (rw) (pg))[k]?))) hm (pw_perm_pl [0, 1, 2, 9, 10, 11, 12, 5, 6, 3, 4, 7, 8] 13 rfl (by decide) (by rfl))
    · exact pw_liftp (rst := ([3, 4].filterMap (fun k => (cW cI cP cR h qr qp ro ao po (md) (rc) (rw) (pg))[k]?))) hm (pw_perm_pl [0, 1, 2, 9, 10, 11, 12, 5, 6, 7, 8, 3, 4] 13 rfl (by decide) (by rfl))
  · rcases (show j = 0 ∨ j = 1 by omega) with rfl | rfl
    · exact pw_liftp (rst := ([5, 6].filterMap (fun k => (cW cI cP cR h qr qp ro ao po (md) (rc) (rw) (pg))[k]?))) hm (pw_perm_pl [0, 1, 2, 9, 10, 11, 12, 7, 8, 3, 4, 5, 6] 13 rfl (by decide) (by rfl))
    · exact pw_liftp (rst := ([3, 4].filterMap (fun k => (cW cI cP cR h qr qp ro ao po (md) (rc) (rw) (pg))[k]?))) hm (pw_perm_pl [0, 1, 2, 9, 10, 11, 12, 7, 8, 5, 6, 3, 4] 13 rfl (by decide) (by rfl))
set_option maxRecDepth 4000 in
theorem lCP {l : Launch} {y : MethodName} {ws : List Cond} {rm : Room} {D : va_G} {cI cP cR : ClassId} {h qr qp : Nat} {ro ao po : Nat → Nat} {md md2 : Nat} {rc rc2 : Nat → Int32} {rw : Nat → Nat × Nat × (Nat → Int32)} {pg : Nat → PgT} {as : List Value} {i j : Nat} (hi : i < 3) (hj : j < 3) (hne : ¬ i = j) {V : Option Value} {n2 c2 : Nat} {f2 : Nat → Int32} (hm : pw_Mm l y ws rm D cI cP cR as [(h, .inr (2, [.ref qr, .ref qp, .int (nI (md)), .int ((rc) 0), .int ((rc) 1), .int ((rc) 2), .int ((rc) 3)])), (qr, .inl (cR, 3, .inr (.inr (.inr (.inr (fun i => some (ro i))))))), (qp, .inl (cP, 4, .inr (.inr (.inr (.inr (fun i => some (po i))))))), (po 0, .inr (0, [va_rf ((pg 0).1.map ro), .int ((pg 0).2.1), .int (nI ((pg 0).2.2.1)), .int ((pg 0).2.2.2.1), .int ((pg 0).2.2.2.2.1), .int ((pg 0).2.2.2.2.2)])), (po 1, .inr (0, [va_rf ((pg 1).1.map ro), .int ((pg 1).2.1), .int (nI ((pg 1).2.2.1)), .int ((pg 1).2.2.2.1), .int ((pg 1).2.2.2.2.1), .int ((pg 1).2.2.2.2.2)])), (po 2, .inr (0, [va_rf ((pg 2).1.map ro), .int ((pg 2).2.1), .int (nI ((pg 2).2.2.1)), .int ((pg 2).2.2.2.1), .int ((pg 2).2.2.2.2.1), .int ((pg 2).2.2.2.2.2)])), (po 3, .inr (0, [va_rf ((pg 3).1.map ro), .int ((pg 3).2.1), .int (nI ((pg 3).2.2.1)), .int ((pg 3).2.2.2.1), .int ((pg 3).2.2.2.2.1), .int ((pg 3).2.2.2.2.2)])), (ro i, .inr (1, [.ref (ao i), .int (nI ((rw i).1)), .int (nI ((rw i).2.1))])), (ao i, .inl (cI, 60, .inl ((rw i).2.2))), (ro j, .inr (1, [.ref (ao j), .int (nI ((rw j).1)), .int (nI ((rw j).2.1))])), (ao j, .inl (cI, 60, .inl ((rw j).2.2)))] (fun v w => v = V ∧ w = [(h, .inr (2, [.ref qr, .ref qp, .int (nI (md2)), .int ((rc2) 0), .int ((rc2) 1), .int ((rc2) 2), .int ((rc2) 3)])), (qr, .inl (cR, 3, .inr (.inr (.inr (.inr (fun i => some (ro i))))))), (qp, .inl (cP, 4, .inr (.inr (.inr (.inr (fun i => some (po i))))))), (po 0, .inr (0, [va_rf ((pgL pg i 0).1.map ro), .int ((pg 0).2.1), .int (nI ((pg 0).2.2.1)), .int ((pg 0).2.2.2.1), .int ((pg 0).2.2.2.2.1), .int ((pg 0).2.2.2.2.2)])), (po 1, .inr (0, [va_rf ((pgL pg i 1).1.map ro), .int ((pg 1).2.1), .int (nI ((pg 1).2.2.1)), .int ((pg 1).2.2.2.1), .int ((pg 1).2.2.2.2.1), .int ((pg 1).2.2.2.2.2)])), (po 2, .inr (0, [va_rf ((pgL pg i 2).1.map ro), .int ((pg 2).2.1), .int (nI ((pg 2).2.2.1)), .int ((pg 2).2.2.2.1), .int ((pg 2).2.2.2.2.1), .int ((pg 2).2.2.2.2.2)])), (po 3, .inr (0, [va_rf ((pgL pg i 3).1.map ro), .int ((pg 3).2.1), .int (nI ((pg 3).2.2.1)), .int ((pg 3).2.2.2.1), .int ((pg 3).2.2.2.2.1), .int ((pg 3).2.2.2.2.2)])), (ro i, .inr (1, [.ref (ao i), .int (nI (n2)), .int (nI (c2))])), (ao i, .inl (cI, 60, .inl (f2))), (ro j, .inr (1, [.ref (ao j), .int (nI ((rw j).1)), .int (nI ((rw j).2.1))])), (ao j, .inl (cI, 60, .inl ((rw j).2.2)))])) : pw_Mm l y ws rm D cI cP cR as (cW cI cP cR h qr qp ro ao po (md) (rc) (rw) (pg)) (fun v w => v = V ∧ w = cW cI cP cR h qr qp ro ao po (md2) (rc2) (va_up rw i (n2, c2, f2)) (pgL pg i)) := by
  rcases (show i = 0 ∨ i = 1 ∨ i = 2 by omega) with rfl | rfl | rfl
  · rcases (show j = 1 ∨ j = 2 by omega) with rfl | rfl
    · refine pw_lift (rst := ([7, 8].filterMap (fun k => (cW cI cP cR h qr qp ro ao po (md) (rc) (rw) (pg))[k]?))) hm (pw_perm_pl [0, 1, 2, 9, 10, 11, 12, 3, 4, 5, 6, 7, 8] 13 rfl (by decide) (by rfl)) (fun v w1 hq => ⟨_, ?_, hq.1, rfl⟩)
      obtain ⟨-, rfl⟩ := hq
      exact pw_perm_pl [0, 1, 2, 7, 8, 9, 10, 11, 12, 3, 4, 5, 6] 13 rfl (by decide) rfl
    · refine pw_lift (rst := ([5, 6].filterMap (fun k => (cW cI cP cR h qr qp ro ao po (md) (rc) (rw) (pg))[k]?))) hm (pw_perm_pl [0, 1, 2, 9, 10, 11, 12, 3, 4, 7, 8, 5, 6] 13 rfl (by decide) (by rfl)) (fun v w1 hq => ⟨_, ?_, hq.1, rfl⟩)
      obtain ⟨-, rfl⟩ := hq
      exact pw_perm_pl [0, 1, 2, 7, 8, 11, 12, 9, 10, 3, 4, 5, 6] 13 rfl (by decide) rfl
  · rcases (show j = 0 ∨ j = 2 by omega) with rfl | rfl
    · refine pw_lift (rst := ([7, 8].filterMap (fun k => (cW cI cP cR h qr qp ro ao po (md) (rc) (rw) (pg))[k]?))) hm (pw_perm_pl [0, 1, 2, 9, 10, 11, 12, 5, 6, 3, 4, 7, 8] 13 rfl (by decide) (by rfl)) (fun v w1 hq => ⟨_, ?_, hq.1, rfl⟩)
      obtain ⟨-, rfl⟩ := hq
      exact pw_perm_pl [0, 1, 2, 9, 10, 7, 8, 11, 12, 3, 4, 5, 6] 13 rfl (by decide) rfl
    · refine pw_lift (rst := ([3, 4].filterMap (fun k => (cW cI cP cR h qr qp ro ao po (md) (rc) (rw) (pg))[k]?))) hm (pw_perm_pl [0, 1, 2, 9, 10, 11, 12, 5, 6, 7, 8, 3, 4] 13 rfl (by decide) (by rfl)) (fun v w1 hq => ⟨_, ?_, hq.1, rfl⟩)
      obtain ⟨-, rfl⟩ := hq
      exact pw_perm_pl [0, 1, 2, 11, 12, 7, 8, 9, 10, 3, 4, 5, 6] 13 rfl (by decide) rfl
  · rcases (show j = 0 ∨ j = 1 by omega) with rfl | rfl
    · refine pw_lift (rst := ([5, 6].filterMap (fun k => (cW cI cP cR h qr qp ro ao po (md) (rc) (rw) (pg))[k]?))) hm (pw_perm_pl [0, 1, 2, 9, 10, 11, 12, 7, 8, 3, 4, 5, 6] 13 rfl (by decide) (by rfl)) (fun v w1 hq => ⟨_, ?_, hq.1, rfl⟩)
      obtain ⟨-, rfl⟩ := hq
      exact pw_perm_pl [0, 1, 2, 9, 10, 11, 12, 7, 8, 3, 4, 5, 6] 13 rfl (by decide) rfl
    · refine pw_lift (rst := ([3, 4].filterMap (fun k => (cW cI cP cR h qr qp ro ao po (md) (rc) (rw) (pg))[k]?))) hm (pw_perm_pl [0, 1, 2, 9, 10, 11, 12, 7, 8, 5, 6, 3, 4] 13 rfl (by decide) (by rfl)) (fun v w1 hq => ⟨_, ?_, hq.1, rfl⟩)
      obtain ⟨-, rfl⟩ := hq
      exact pw_perm_pl [0, 1, 2, 11, 12, 9, 10, 7, 8, 3, 4, 5, 6] 13 rfl (by decide) rfl
set_option maxRecDepth 4000 in
theorem lC_p {l : Launch} {y : MethodName} {ws : List Cond} {rm : Room} {D : va_G} {cI cP cR : ClassId} {h qr qp : Nat} {ro ao po : Nat → Nat} {md : Nat} {rc : Nat → Int32} {rw : Nat → Nat × Nat × (Nat → Int32)} {pg : Nat → PgT} {as : List Value}   {v0 : Value} (hm : pw_Mp l y ws rm D cI cP cR as [(h, .inr (2, [.ref qr, .ref qp, .int (nI (md)), .int ((rc) 0), .int ((rc) 1), .int ((rc) 2), .int ((rc) 3)])), (qp, .inl (cP, 4, .inr (.inr (.inr (.inr (fun i => some (po i))))))), (po 0, .inr (0, [va_rf ((pg 0).1.map ro), .int ((pg 0).2.1), .int (nI ((pg 0).2.2.1)), .int ((pg 0).2.2.2.1), .int ((pg 0).2.2.2.2.1), .int ((pg 0).2.2.2.2.2)])), (po 1, .inr (0, [va_rf ((pg 1).1.map ro), .int ((pg 1).2.1), .int (nI ((pg 1).2.2.1)), .int ((pg 1).2.2.2.1), .int ((pg 1).2.2.2.2.1), .int ((pg 1).2.2.2.2.2)])), (po 2, .inr (0, [va_rf ((pg 2).1.map ro), .int ((pg 2).2.1), .int (nI ((pg 2).2.2.1)), .int ((pg 2).2.2.2.1), .int ((pg 2).2.2.2.2.1), .int ((pg 2).2.2.2.2.2)])), (po 3, .inr (0, [va_rf ((pg 3).1.map ro), .int ((pg 3).2.1), .int (nI ((pg 3).2.2.1)), .int ((pg 3).2.2.2.1), .int ((pg 3).2.2.2.2.1), .int ((pg 3).2.2.2.2.2)])), (ro 0, .inr (1, [.ref (ao 0), .int (nI ((rw 0).1)), .int (nI ((rw 0).2.1))])), (ao 0, .inl (cI, 60, .inl ((rw 0).2.2))), (ro 1, .inr (1, [.ref (ao 1), .int (nI ((rw 1).1)), .int (nI ((rw 1).2.1))])), (ao 1, .inl (cI, 60, .inl ((rw 1).2.2))), (ro 2, .inr (1, [.ref (ao 2), .int (nI ((rw 2).1)), .int (nI ((rw 2).2.1))])), (ao 2, .inl (cI, 60, .inl ((rw 2).2.2)))] v0) : pw_Mm l y ws rm D cI cP cR as (cW cI cP cR h qr qp ro ao po (md) (rc) (rw) (pg)) (fun v w => v = some v0 ∧ w = cW cI cP cR h qr qp ro ao po (md) (rc) (rw) (pg)) := by
  exact pw_liftp (rst := ([1].filterMap (fun k => (cW cI cP cR h qr qp ro ao po (md) (rc) (rw) (pg))[k]?))) hm (pw_perm_pl [0, 2, 9, 10, 11, 12, 3, 4, 5, 6, 7, 8, 1] 13 rfl (by decide) (by rfl))
