/-! each call: the same answer of both, and the relation holds behind it -/
def mW (cI : ClassId) (x t z rf rwa pl hd ha lo ol asa : Nat) (md : Nat) (T : Nat → Nat → Int32) (Z : Nat → Nat) (RF R P Hd HA Lo Ol AS : Nat → Int32) : va_W := [(x, .inr (3, [.ref t, .ref z, .int (nI md), .ref rf, .ref rwa, .ref pl, .ref hd, .ref ha, .ref lo, .ref ol, .ref asa])), (t, .inl (cI, 192, .inl (flT T))), (z, .inl (cI, 3, .inl (zI Z))), (rf, .inl (cI, 4, .inl (RF))), (rwa, .inl (cI, 4, .inl (R))), (pl, .inl (cI, 4, .inl (P))), (hd, .inl (cI, 4, .inl (Hd))), (ha, .inl (cI, 4, .inl (HA))), (lo, .inl (cI, 4, .inl (Lo))), (ol, .inl (cI, 4, .inl (Ol))), (asa, .inl (cI, 64, .inl (AS)))]
def Sim (l : Launch) (D : va_G) (cI cP cR : ClassId) (h qr qp : Nat) (ro ao po : Nat → Nat) (x t z rf rwa pl hd ha lo ol asa : Nat) (yc : MethodName) (wsc : List Cond) (rmc : Room) (ym : MethodName) (wsm : List Cond) (rmm : Room) (as : List Value) (k md : Nat) (rc RF : Nat → Int32) (cr : Nat → Nat × Nat × (Nat → Int32)) (T : Nat → Nat → Int32) (Z : Nat → Nat) (pg : Nat → PgT) (R P Hd HA Lo Ol AS : Nat → Int32) : Prop :=
  ∃ (r : Int32) (md2 : Nat) (rc2 RF2 : Nat → Int32) (cr2 : Nat → Nat × Nat × (Nat → Int32)) (T2 : Nat → Nat → Int32) (Z2 : Nat → Nat) (pg2 : Nat → PgT) (R2 P2 Hd2 HA2 Lo2 Ol2 AS2 : Nat → Int32), Rel (k + 1) md2 rc2 RF2 cr2 T2 Z2 pg2 R2 P2 Hd2 HA2 Lo2 Ol2 ∧
    pw_Mm l yc wsc rmc D cI cP cR (.ref h :: as) (cW cI cP cR h qr qp ro ao po md rc cr pg) (fun v w => v = some (.int r) ∧ w = (cW cI cP cR h qr qp ro ao po md2 rc2 cr2 pg2)) ∧
    pw_Mm l ym wsm rmm D cI cP cR (.ref x :: as) (mW cI x t z rf rwa pl hd ha lo ol asa md T Z RF R P Hd HA Lo Ol AS) (fun v w => v = some (.int r) ∧ w = (mW cI x t z rf rwa pl hd ha lo ol asa md2 T2 Z2 RF2 R2 P2 Hd2 HA2 Lo2 Ol2 AS2))
theorem mlift {l : Launch} {y : MethodName} {ws : List Cond} {rm : Room} {D : va_G} {cI cP cR : ClassId} {as : List Value} {w0 : va_W} {v0 : Value} (hm : pw_Mp l y ws rm D cI cP cR as w0 v0) : pw_Mm l y ws rm D cI cP cR as w0 (fun v w => v = some v0 ∧ w = w0) := pw_liftp (rst := []) hm (by rw [List.append_nil])
theorem va_up_i {α : Type} (f : Nat → α) (i : Nat) : va_up f i (f i) = f := by funext k; unfold va_up; by_cases e : k = i <;> simp [e]
theorem plF_le (la : Int32) (n : Nat) : plF la n ≤ n := by unfold plF; split <;> omega
section SIM
variable {l : Launch} {D : va_G} {cI cP cR : ClassId} {h qr qp : Nat} {ro ao po : Nat → Nat} {x t z rf rwa pl hd ha lo ol asa : Nat} {k md : Nat} {rc RF : Nat → Int32} {cr : Nat → Nat × Nat × (Nat → Int32)} {T : Nat → Nat → Int32} {Z : Nat → Nat} {pg : Nat → PgT} {R P Hd HA Lo Ol AS : Nat → Int32}
variable {yc ym : MethodName} {wsc wsm : List Cond} {rmc rmm : Room} {as : List Value}
theorem sim_r (hR : Rel k md rc RF cr T Z pg R P Hd HA Lo Ol) (r : Int32) (hc : pw_Mm l yc wsc rmc D cI cP cR (.ref h :: as) (cW cI cP cR h qr qp ro ao po md rc cr pg) (fun v w => v = some (.int r) ∧ w = (cW cI cP cR h qr qp ro ao po md rc cr pg))) (hm : pw_Mm l ym wsm rmm D cI cP cR (.ref x :: as) (mW cI x t z rf rwa pl hd ha lo ol asa md T Z RF R P Hd HA Lo Ol AS) (fun v w => v = some (.int r) ∧ w = (mW cI x t z rf rwa pl hd ha lo ol asa md T Z RF R P Hd HA Lo Ol AS))) : Sim l D cI cP cR h qr qp ro ao po x t z rf rwa pl hd ha lo ol asa yc wsc rmc ym wsm rmm as k md rc RF cr T Z pg R P Hd HA Lo Ol AS :=
  ⟨r, md, rc, RF, cr, T, Z, pg, R, P, Hd, HA, Lo, Ol, AS, Rel_up hR, hc, hm⟩
theorem sim_ref (hR : Rel k md rc RF cr T Z pg R P Hd HA Lo Ol) (r : Int32) (q : Nat) (hq : q < 4) (hc : pw_Mm l yc wsc rmc D cI cP cR (.ref h :: as) (cW cI cP cR h qr qp ro ao po md rc cr pg) (fun v w => v = some (.int r) ∧ w = cW cI cP cR h qr qp ro ao po md (upd rc q (rc q + nI 1)) cr pg)) (hm : pw_Mm l ym wsm rmm D cI cP cR (.ref x :: as) (mW cI x t z rf rwa pl hd ha lo ol asa md T Z RF R P Hd HA Lo Ol AS) (fun v w => v = some (.int r) ∧ w = mW cI x t z rf rwa pl hd ha lo ol asa md T Z (upd RF q (RF q + nI 1)) R P Hd HA Lo Ol AS)) : Sim l D cI cP cR h qr qp ro ao po x t z rf rwa pl hd ha lo ol asa yc wsc rmc ym wsm rmm as k md rc RF cr T Z pg R P Hd HA Lo Ol AS :=
  ⟨r, md, upd rc q (rc q + nI 1), upd RF q (RF q + nI 1), cr, T, Z, pg, R, P, Hd, HA, Lo, Ol, AS, Rel_ref hR q hq, hc, hm⟩
theorem lRs {i : Nat} {rc2 : Nat → Int32} {md2 : Nat} {V : Option Value} {a2 : List Value} (hi : i < 3) (hm : pw_Mm l yc wsc rmc D cI cP cR a2 [(h, .inr (2, [.ref qr, .ref qp, .int (nI (md)), .int ((rc) 0), .int ((rc) 1), .int ((rc) 2), .int ((rc) 3)])), (qr, .inl (cR, 3, .inr (.inr (.inr (.inr (fun i => some (ro i))))))), (ro i, .inr (1, [.ref (ao i), .int (nI ((cr i).1)), .int (nI ((cr i).2.1))])), (ao i, .inl (cI, 60, .inl ((cr i).2.2)))] (fun v w => v = V ∧ w = [(h, .inr (2, [.ref qr, .ref qp, .int (nI (md2)), .int ((rc2) 0), .int ((rc2) 1), .int ((rc2) 2), .int ((rc2) 3)])), (qr, .inl (cR, 3, .inr (.inr (.inr (.inr (fun i => some (ro i))))))), (ro i, .inr (1, [.ref (ao i), .int (nI ((cr i).1)), .int (nI ((cr i).2.1))])), (ao i, .inl (cI, 60, .inl ((cr i).2.2)))])) : pw_Mm l yc wsc rmc D cI cP cR a2 (cW cI cP cR h qr qp ro ao po (md) (rc) (cr) (pg)) (fun v w => v = V ∧ w = cW cI cP cR h qr qp ro ao po (md2) (rc2) (cr) (pg)) := by
  have h9 := lR (po := po) (rw := cr) (pg := pg) (md2 := md2) (rc2 := rc2) (n2 := (cr i).1) (c2 := (cr i).2.1) (f2 := (cr i).2.2) hi hm
  rw [show va_up cr i ((cr i).1, (cr i).2.1, (cr i).2.2) = cr from va_up_i cr i] at h9
  exact h9
theorem lRRs {i j : Nat} {rc2 : Nat → Int32} {md2 : Nat} {V : Option Value} {a2 : List Value} (hi : i < 3) (hj : j < 3) (hne : ¬ i = j) (hm : pw_Mm l yc wsc rmc D cI cP cR a2 [(h, .inr (2, [.ref qr, .ref qp, .int (nI (md)), .int ((rc) 0), .int ((rc) 1), .int ((rc) 2), .int ((rc) 3)])), (qr, .inl (cR, 3, .inr (.inr (.inr (.inr (fun i => some (ro i))))))), (ro i, .inr (1, [.ref (ao i), .int (nI ((cr i).1)), .int (nI ((cr i).2.1))])), (ao i, .inl (cI, 60, .inl ((cr i).2.2))), (ro j, .inr (1, [.ref (ao j), .int (nI ((cr j).1)), .int (nI ((cr j).2.1))])), (ao j, .inl (cI, 60, .inl ((cr j).2.2)))] (fun v w => v = V ∧ w = [(h, .inr (2, [.ref qr, .ref qp, .int (nI (md2)), .int ((rc2) 0), .int ((rc2) 1), .int ((rc2) 2), .int ((rc2) 3)])), (qr, .inl (cR, 3, .inr (.inr (.inr (.inr (fun i => some (ro i))))))), (ro i, .inr (1, [.ref (ao i), .int (nI ((cr i).1)), .int (nI ((cr i).2.1))])), (ao i, .inl (cI, 60, .inl ((cr i).2.2))), (ro j, .inr (1, [.ref (ao j), .int (nI ((cr j).1)), .int (nI ((cr j).2.1))])), (ao j, .inl (cI, 60, .inl ((cr j).2.2)))])) : pw_Mm l yc wsc rmc D cI cP cR a2 (cW cI cP cR h qr qp ro ao po (md) (rc) (cr) (pg)) (fun v w => v = V ∧ w = cW cI cP cR h qr qp ro ao po (md2) (rc2) (cr) (pg)) := by
  have h9 := lRR (po := po) (rw := cr) (pg := pg) (md2 := md2) (rc2 := rc2) (n2 := (cr i).1) (c2 := (cr i).2.1) (f2 := (cr i).2.2) hi hj hne hm
  rw [show va_up cr i ((cr i).1, (cr i).2.1, (cr i).2.2) = cr from va_up_i cr i] at h9
  exact h9
theorem lPRs {p i : Nat} {rc2 : Nat → Int32} {md2 : Nat} {V : Option Value} {a2 : List Value} {pa : Int32} {ps : Nat} {ph pt pm : Int32} {pa2 : Int32} {ps2 : Nat} {ph2 pt2 pm2 : Int32} (hp4 : p < 4) (hi : i < 3) (hg : pg p = (some i, pa, ps, ph, pt, pm)) (hm : pw_Mm l yc wsc rmc D cI cP cR a2 [(h, .inr (2, [.ref qr, .ref qp, .int (nI (md)), .int ((rc) 0), .int ((rc) 1), .int ((rc) 2), .int ((rc) 3)])), (qp, .inl (cP, 4, .inr (.inr (.inr (.inr (fun i => some (po i))))))), (po p, .inr (0, [.ref (ro i), .int (pa), .int (nI (ps)), .int (ph), .int (pt), .int (pm)])), (ro i, .inr (1, [.ref (ao i), .int (nI ((cr i).1)), .int (nI ((cr i).2.1))])), (ao i, .inl (cI, 60, .inl ((cr i).2.2)))] (fun v w => v = V ∧ w = [(h, .inr (2, [.ref qr, .ref qp, .int (nI (md2)), .int ((rc2) 0), .int ((rc2) 1), .int ((rc2) 2), .int ((rc2) 3)])), (qp, .inl (cP, 4, .inr (.inr (.inr (.inr (fun i => some (po i))))))), (po p, .inr (0, [.ref (ro i), .int (pa2), .int (nI (ps2)), .int (ph2), .int (pt2), .int (pm2)])), (ro i, .inr (1, [.ref (ao i), .int (nI ((cr i).1)), .int (nI ((cr i).2.1))])), (ao i, .inl (cI, 60, .inl ((cr i).2.2)))])) : pw_Mm l yc wsc rmc D cI cP cR a2 (cW cI cP cR h qr qp ro ao po (md) (rc) (cr) (pg)) (fun v w => v = V ∧ w = cW cI cP cR h qr qp ro ao po (md2) (rc2) (cr) (va_up pg p (some i, pa2, ps2, ph2, pt2, pm2))) := by
  have h9 := lPR (rw := cr) (md2 := md2) (rc2 := rc2) (n2 := (cr i).1) (c2 := (cr i).2.1) (f2 := (cr i).2.2) hp4 hi hg hm
  rw [show va_up cr i ((cr i).1, (cr i).2.1, (cr i).2.2) = cr from va_up_i cr i] at h9
  exact h9
theorem lPRr {p i : Nat} {rc2 : Nat → Int32} {md2 : Nat} {V : Option Value} {a2 : List Value} {pa : Int32} {ps : Nat} {ph pt pm : Int32} (hp4 : p < 4) (hi : i < 3) (hg : pg p = (some i, pa, ps, ph, pt, pm)) (hm : pw_Mm l yc wsc rmc D cI cP cR a2 [(h, .inr (2, [.ref qr, .ref qp, .int (nI (md)), .int ((rc) 0), .int ((rc) 1), .int ((rc) 2), .int ((rc) 3)])), (qp, .inl (cP, 4, .inr (.inr (.inr (.inr (fun i => some (po i))))))), (po p, .inr (0, [.ref (ro i), .int (pa), .int (nI (ps)), .int (ph), .int (pt), .int (pm)])), (ro i, .inr (1, [.ref (ao i), .int (nI ((cr i).1)), .int (nI ((cr i).2.1))])), (ao i, .inl (cI, 60, .inl ((cr i).2.2)))] (fun v w => v = V ∧ w = [(h, .inr (2, [.ref qr, .ref qp, .int (nI (md2)), .int ((rc2) 0), .int ((rc2) 1), .int ((rc2) 2), .int ((rc2) 3)])), (qp, .inl (cP, 4, .inr (.inr (.inr (.inr (fun i => some (po i))))))), (po p, .inr (0, [.ref (ro i), .int (pa), .int (nI (ps)), .int (ph), .int (pt), .int (pm)])), (ro i, .inr (1, [.ref (ao i), .int (nI ((cr i).1)), .int (nI ((cr i).2.1))])), (ao i, .inl (cI, 60, .inl ((cr i).2.2)))])) : pw_Mm l yc wsc rmc D cI cP cR a2 (cW cI cP cR h qr qp ro ao po (md) (rc) (cr) (pg)) (fun v w => v = V ∧ w = cW cI cP cR h qr qp ro ao po (md2) (rc2) (cr) (pg)) := by
  have h9 := lPRs hp4 hi hg hm
  rw [← hg, va_up_i] at h9
  exact h9
set_option maxHeartbeats 4000000 in
theorem sim_put (hk : k ≤ 600) (hro : ∀ i j, i < 3 → j < 3 → ro i = ro j → i = j) (hR : Rel k md rc RF cr T Z pg R P Hd HA Lo Ol) (row name la way : Int32) : Sim l D cI cP cR h qr qp ro ao po x t z rf rwa pl hd ha lo ol asa yX2_put wsX2_put ({ frames := 2, cells := 0, slots := 0, locals := 45 } : Room) yX3_put wsX3_put ({ frames := 2, cells := 0, slots := 0, locals := 47 } : Room) [.int row, .int name, .int la, .int way] k md rc RF cr T Z pg R P Hd HA Lo Ol AS := by
  obtain ⟨hmd, hrc, hrow, hpeg⟩ := id hR
  by_cases hG : (0 ≤ row ∧ row < nI 3) ∧ (0 ≤ name ∧ name < nI 10) ∧ (0 ≤ way ∧ way ≤ nI 2)
  · obtain ⟨i, hi, rfl⟩ := pw_inP (by decide) hG.1
    obtain ⟨nm, hnm, rfl⟩ := pw_inP (by decide) hG.2.1
    obtain ⟨wy, hw, rfl⟩ := pw_inL (by decide) hG.2.2
    obtain ⟨hn, hz, hch, hft⟩ := hrow i hi
    by_cases hf : Z i = 60
    · exact sim_r hR (-3) (lR_p hi (k_put_f l D cI cP cR h qr qp md (rc 0) (rc 1) (rc 2) (rc 3) ro i (ao i) (cr i).1 (nI (cr i).2.1) (cr i).2.2 hi (by omega) nm wy la hnm hw (by omega))) (mlift (n_put_f l D cI cP cR x t z rf rwa pl hd ha lo ol asa md T Z RF R P Hd HA Lo Ol AS i hi hz nm wy la hnm hw hf))
    · have hf2 : Z i < 60 := by omega
      exact ⟨nI (Z i + 1), md + 1, rc, RF, va_up cr i (Z i + 1, (cr i).2.1 + 1, upd (opn (cr i).2.2 (plF la (Z i)) 1 (Z i)) (plF la (Z i)) (nI ((md * 10) + nm))), upR T i (upd (opn (T i) (plF la (Z i)) 1 (Z i)) (plF la (Z i)) (nI ((md * 10) + nm))), updN Z i (Z i + 1), pg, R, P, Hd, HA, Lo, agF R Ol (nI i) (-1), AS,
          Rel_row hR hi (by omega) (by omega) (ag_ins hft (plF_le _ _) (pw_nm1 (by omega))),
          lR hi (by simpa only [nI_add, hn] using k_put l D cI cP cR h qr qp md (rc 0) (rc 1) (rc 2) (rc 3) ro i (ao i) (cr i).1 (nI (cr i).2.1) (cr i).2.2 hi (by omega) nm wy la hnm hw (by omega)),
          n_put l D cI cP cR x t z rf rwa pl hd ha lo ol asa md T Z RF R P Hd HA Lo Ol AS i hi hz nm wy la hnm hw hf2⟩
  · exact sim_r hR (-1) (lB_p (k_put_x l D cI cP cR h qr qp md (rc 0) (rc 1) (rc 2) (rc 3) ro row name la way hG)) (mlift (n_put_x l D cI cP cR x t z rf rwa pl hd ha lo ol asa md T Z RF R P Hd HA Lo Ol AS row name la way hG))
set_option maxHeartbeats 4000000 in
theorem sim_end (hk : k ≤ 600) (hro : ∀ i j, i < 3 → j < 3 → ro i = ro j → i = j) (hR : Rel k md rc RF cr T Z pg R P Hd HA Lo Ol) (row la way : Int32) : Sim l D cI cP cR h qr qp ro ao po x t z rf rwa pl hd ha lo ol asa yX2_end wsX2_end ({ frames := 2, cells := 0, slots := 0, locals := 42 } : Room) yX3_end wsX3_end ({ frames := 2, cells := 0, slots := 0, locals := 47 } : Room) [.int row, .int la, .int way] k md rc RF cr T Z pg R P Hd HA Lo Ol AS := by
  obtain ⟨hmd, hrc, hrow, hpeg⟩ := id hR
  by_cases hG : (0 ≤ row ∧ row < nI 3) ∧ (0 ≤ way ∧ way ≤ (if la = 0 then nI 3 else nI 1))
  · obtain ⟨i, hi, rfl⟩ := pw_inP (by decide) hG.1
    obtain ⟨hn, hz, hch, hft⟩ := hrow i hi
    have hw := hG.2
    by_cases hz0 : Z i = 0
    · by_cases he : way - way / nI 2 * nI 2 = 0
      · exact sim_ref hR (-6) 0 (by decide) (lRs hi (k_end_e l D cI cP cR h qr qp md (rc 0) (rc 1) (rc 2) (rc 3) ro i (ao i) (cr i).1 (nI (cr i).2.1) (cr i).2.2 hi (by omega) la way hw (by omega) he)) (n_end_e l D cI cP cR x t z rf rwa pl hd ha lo ol asa md T Z RF R P Hd HA Lo Ol AS i hi hz la way hw hz0 he)
      · exact sim_r hR (-6) (lR_p hi (k_end_o l D cI cP cR h qr qp md (rc 0) (rc 1) (rc 2) (rc 3) ro i (ao i) (cr i).1 (nI (cr i).2.1) (cr i).2.2 hi (by omega) la way hw (by omega) he)) (mlift (n_end_o l D cI cP cR x t z rf rwa pl hd ha lo ol asa md T Z RF R P Hd HA Lo Ol AS i hi hz la way hw hz0 he))
    · have hlt : plF la (Z i - 1) < Z i := by have := plF_le la (Z i - 1); omega
      have e := (hft _ hlt).1
      exact sim_r hR (T i (plF la (Z i - 1))) (by have h9 := lR_p (po := po) (pg := pg) hi (k_end l D cI cP cR h qr qp md (rc 0) (rc 1) (rc 2) (rc 3) ro i (ao i) (cr i).1 (nI (cr i).2.1) (cr i).2.2 hi (by omega) la way hw (by omega)); rw [hn, e] at h9; exact h9) (mlift (n_end l D cI cP cR x t z rf rwa pl hd ha lo ol asa md T Z RF R P Hd HA Lo Ol AS i hi hz la way hw hz0))
  · exact sim_r hR (-1) (lB_p (k_end_x l D cI cP cR h qr qp md (rc 0) (rc 1) (rc 2) (rc 3) ro row la way hG)) (mlift (n_end_x l D cI cP cR x t z rf rwa pl hd ha lo ol asa md T Z RF R P Hd HA Lo Ol AS row la way hG))
set_option maxHeartbeats 4000000 in
theorem sim_take (hk : k ≤ 600) (hro : ∀ i j, i < 3 → j < 3 → ro i = ro j → i = j) (hR : Rel k md rc RF cr T Z pg R P Hd HA Lo Ol) (row la way : Int32) : Sim l D cI cP cR h qr qp ro ao po x t z rf rwa pl hd ha lo ol asa yX2_take wsX2_take ({ frames := 2, cells := 0, slots := 0, locals := 44 } : Room) yX3_take wsX3_take ({ frames := 2, cells := 0, slots := 0, locals := 47 } : Room) [.int row, .int la, .int way] k md rc RF cr T Z pg R P Hd HA Lo Ol AS := by
  obtain ⟨hmd, hrc, hrow, hpeg⟩ := id hR
  by_cases hG : (0 ≤ row ∧ row < nI 3) ∧ (0 ≤ way ∧ way ≤ (if la = 0 then nI 4 else nI 1))
  · obtain ⟨i, hi, rfl⟩ := pw_inP (by decide) hG.1
    obtain ⟨hn, hz, hch, hft⟩ := hrow i hi
    have hw := hG.2
    by_cases hz0 : Z i = 0
    · by_cases he : way - way / nI 2 * nI 2 = 0
      · exact sim_ref hR (-6) 0 (by decide) (lRs hi (k_take_e l D cI cP cR h qr qp md (rc 0) (rc 1) (rc 2) (rc 3) ro i (ao i) (cr i).1 (nI (cr i).2.1) (cr i).2.2 hi (by omega) la way hw (by omega) he)) (n_take_e l D cI cP cR x t z rf rwa pl hd ha lo ol asa md T Z RF R P Hd HA Lo Ol AS i hi hz la way hw hz0 he)
      · exact sim_r hR (-6) (lR_p hi (k_take_o l D cI cP cR h qr qp md (rc 0) (rc 1) (rc 2) (rc 3) ro i (ao i) (cr i).1 (nI (cr i).2.1) (cr i).2.2 hi (by omega) la way hw (by omega) he)) (mlift (n_take_o l D cI cP cR x t z rf rwa pl hd ha lo ol asa md T Z RF R P Hd HA Lo Ol AS i hi hz la way hw hz0 he))
    · have hlt : plF la (Z i - 1) < Z i := by have := plF_le la (Z i - 1); omega
      have e := (hft _ hlt).1
      exact ⟨T i (plF la (Z i - 1)), md, rc, RF, va_up cr i (Z i - 1, (cr i).2.1 + 1, clsF (cr i).2.2 (plF la (Z i - 1)) (Z i)), upR T i (clsF (T i) (plF la (Z i - 1)) (Z i)), updN Z i (Z i - 1), pg, R, P, Hd, HA, Lo, agF R Ol (nI i) (-1), AS,
          Rel_row hR hi (by omega) (by omega) (ag_cls hft hlt),
          lR hi (by simpa only [nI_add, hn, e] using k_take l D cI cP cR h qr qp md (rc 0) (rc 1) (rc 2) (rc 3) ro i (ao i) (cr i).1 (nI (cr i).2.1) (cr i).2.2 hi (by omega) la way hw (by omega)),
          n_take l D cI cP cR x t z rf rwa pl hd ha lo ol asa md T Z RF R P Hd HA Lo Ol AS i hi hz la way hw hz0⟩
  · exact sim_r hR (-1) (lB_p (k_take_x l D cI cP cR h qr qp md (rc 0) (rc 1) (rc 2) (rc 3) ro row la way hG)) (mlift (n_take_x l D cI cP cR x t z rf rwa pl hd ha lo ol asa md T Z RF R P Hd HA Lo Ol AS row la way hG))
set_option maxHeartbeats 4000000 in
theorem sim_at (hk : k ≤ 600) (hro : ∀ i j, i < 3 → j < 3 → ro i = ro j → i = j) (hR : Rel k md rc RF cr T Z pg R P Hd HA Lo Ol) (row q : Int32) : Sim l D cI cP cR h qr qp ro ao po x t z rf rwa pl hd ha lo ol asa yX2_at wsX2_at ({ frames := 2, cells := 0, slots := 0, locals := 45 } : Room) yX3_at wsX3_at ({ frames := 2, cells := 0, slots := 0, locals := 47 } : Room) [.int row, .int q] k md rc RF cr T Z pg R P Hd HA Lo Ol AS := by
  obtain ⟨hmd, hrc, hrow, hpeg⟩ := id hR
  by_cases hG : (0 ≤ row ∧ row < nI 3)
  · obtain ⟨i, hi, rfl⟩ := pw_inP (by decide) hG
    obtain ⟨hn, hz, hch, hft⟩ := hrow i hi
    by_cases hq : 0 ≤ q ∧ q < nI (Z i)
    · obtain ⟨j, hj, rfl⟩ := pw_inP (by omega) hq
      have e := (hft j hj).1
      exact sim_r hR (T i j) (by have h9 := lR_p (po := po) (pg := pg) hi (k_at l D cI cP cR h qr qp md (rc 0) (rc 1) (rc 2) (rc 3) ro i (ao i) (cr i).1 (nI (cr i).2.1) (cr i).2.2 hi (by omega) j (by omega)); rw [e] at h9; exact h9) (mlift (n_at l D cI cP cR x t z rf rwa pl hd ha lo ol asa md T Z RF R P Hd HA Lo Ol AS i hi hz j hj))
    · exact sim_ref hR (-5) 1 (by decide) (lRs hi (k_at_p l D cI cP cR h qr qp md (rc 0) (rc 1) (rc 2) (rc 3) ro i (ao i) (cr i).1 (nI (cr i).2.1) (cr i).2.2 hi (by omega) q (by rw [hn]; exact hq))) (n_at_p l D cI cP cR x t z rf rwa pl hd ha lo ol asa md T Z RF R P Hd HA Lo Ol AS i hi hz q hq)
  · exact sim_r hR (-1) (lB_p (k_at_x l D cI cP cR h qr qp md (rc 0) (rc 1) (rc 2) (rc 3) ro row q hG)) (mlift (n_at_x l D cI cP cR x t z rf rwa pl hd ha lo ol asa md T Z RF R P Hd HA Lo Ol AS row q hG))
set_option maxHeartbeats 4000000 in
theorem sim_drop (hk : k ≤ 600) (hro : ∀ i j, i < 3 → j < 3 → ro i = ro j → i = j) (hR : Rel k md rc RF cr T Z pg R P Hd HA Lo Ol) (row q : Int32) : Sim l D cI cP cR h qr qp ro ao po x t z rf rwa pl hd ha lo ol asa yX2_drop wsX2_drop ({ frames := 2, cells := 0, slots := 0, locals := 45 } : Room) yX3_drop wsX3_drop ({ frames := 2, cells := 0, slots := 0, locals := 47 } : Room) [.int row, .int q] k md rc RF cr T Z pg R P Hd HA Lo Ol AS := by
  obtain ⟨hmd, hrc, hrow, hpeg⟩ := id hR
  by_cases hG : (0 ≤ row ∧ row < nI 3)
  · obtain ⟨i, hi, rfl⟩ := pw_inP (by decide) hG
    obtain ⟨hn, hz, hch, hft⟩ := hrow i hi
    by_cases hq : 0 ≤ q ∧ q < nI (Z i)
    · obtain ⟨j, hj, rfl⟩ := pw_inP (by omega) hq
      have e := (hft j hj).1
      exact ⟨T i j, md, rc, RF, va_up cr i (Z i - 1, (cr i).2.1 + 1, clsF (cr i).2.2 j (Z i)), upR T i (clsF (T i) j (Z i)), updN Z i (Z i - 1), pg, R, P, Hd, HA, Lo, agF R Ol (nI i) (-1), AS,
          Rel_row hR hi (by omega) (by omega) (ag_cls hft hj),
          lR hi (by simpa only [nI_add, hn, e] using k_drop l D cI cP cR h qr qp md (rc 0) (rc 1) (rc 2) (rc 3) ro i (ao i) (cr i).1 (nI (cr i).2.1) (cr i).2.2 hi (by omega) j (by omega)),
          n_drop l D cI cP cR x t z rf rwa pl hd ha lo ol asa md T Z RF R P Hd HA Lo Ol AS i hi hz j hj⟩
    · exact sim_ref hR (-5) 1 (by decide) (lRs hi (k_drop_p l D cI cP cR h qr qp md (rc 0) (rc 1) (rc 2) (rc 3) ro i (ao i) (cr i).1 (nI (cr i).2.1) (cr i).2.2 hi (by omega) q (by rw [hn]; exact hq))) (n_drop_p l D cI cP cR x t z rf rwa pl hd ha lo ol asa md T Z RF R P Hd HA Lo Ol AS i hi hz q hq)
  · exact sim_r hR (-1) (lB_p (k_drop_x l D cI cP cR h qr qp md (rc 0) (rc 1) (rc 2) (rc 3) ro row q hG)) (mlift (n_drop_x l D cI cP cR x t z rf rwa pl hd ha lo ol asa md T Z RF R P Hd HA Lo Ol AS row q hG))
set_option maxHeartbeats 4000000 in
theorem sim_lay (hk : k ≤ 600) (hro : ∀ i j, i < 3 → j < 3 → ro i = ro j → i = j) (hR : Rel k md rc RF cr T Z pg R P Hd HA Lo Ol) (row q name : Int32) : Sim l D cI cP cR h qr qp ro ao po x t z rf rwa pl hd ha lo ol asa yX2_lay wsX2_lay ({ frames := 2, cells := 0, slots := 0, locals := 45 } : Room) yX3_lay wsX3_lay ({ frames := 2, cells := 0, slots := 0, locals := 47 } : Room) [.int row, .int q, .int name] k md rc RF cr T Z pg R P Hd HA Lo Ol AS := by
  obtain ⟨hmd, hrc, hrow, hpeg⟩ := id hR
  by_cases hG : (0 ≤ row ∧ row < nI 3) ∧ (0 ≤ name ∧ name < nI 10)
  · obtain ⟨i, hi, rfl⟩ := pw_inP (by decide) hG.1
    obtain ⟨nm, hnm, rfl⟩ := pw_inP (by decide) hG.2
    obtain ⟨hn, hz, hch, hft⟩ := hrow i hi
    by_cases hq : 0 ≤ q ∧ q < nI (Z i)
    · obtain ⟨j, hj, rfl⟩ := pw_inP (by omega) hq
      have e := (hft j hj).1
      exact ⟨T i j, md + 1, rc, RF, va_up cr i (Z i, (cr i).2.1, upd (cr i).2.2 j (nI ((md * 10) + nm))), upR T i (upd (T i) j (nI ((md * 10) + nm))), Z, pg, R, P, Hd, HA, Lo, Ol, AS,
          Rel_lay hR hi (by omega) (ag_upd hft (pw_nm1 (by omega))),
          lR hi (by simpa only [hn, e] using k_lay l D cI cP cR h qr qp md (rc 0) (rc 1) (rc 2) (rc 3) ro i (ao i) (cr i).1 (nI (cr i).2.1) (cr i).2.2 hi (by omega) j nm (by omega) hnm),
          n_lay l D cI cP cR x t z rf rwa pl hd ha lo ol asa md T Z RF R P Hd HA Lo Ol AS i hi hz j hj nm hnm⟩
    · exact sim_ref hR (-5) 1 (by decide) (lRs hi (k_lay_p l D cI cP cR h qr qp md (rc 0) (rc 1) (rc 2) (rc 3) ro i (ao i) (cr i).1 (nI (cr i).2.1) (cr i).2.2 hi (by omega) q (by rw [hn]; exact hq) nm hnm)) (n_lay_p l D cI cP cR x t z rf rwa pl hd ha lo ol asa md T Z RF R P Hd HA Lo Ol AS i hi hz q hq nm hnm)
  · exact sim_r hR (-1) (lB_p (k_lay_x l D cI cP cR h qr qp md (rc 0) (rc 1) (rc 2) (rc 3) ro row q name hG)) (mlift (n_lay_x l D cI cP cR x t z rf rwa pl hd ha lo ol asa md T Z RF R P Hd HA Lo Ol AS row q name hG))
set_option maxHeartbeats 4000000 in
theorem sim_insert (hk : k ≤ 600) (hro : ∀ i j, i < 3 → j < 3 → ro i = ro j → i = j) (hR : Rel k md rc RF cr T Z pg R P Hd HA Lo Ol) (row q name : Int32) : Sim l D cI cP cR h qr qp ro ao po x t z rf rwa pl hd ha lo ol asa yX2_insert wsX2_insert ({ frames := 2, cells := 0, slots := 0, locals := 45 } : Room) yX3_insert wsX3_insert ({ frames := 2, cells := 0, slots := 0, locals := 47 } : Room) [.int row, .int q, .int name] k md rc RF cr T Z pg R P Hd HA Lo Ol AS := by
  obtain ⟨hmd, hrc, hrow, hpeg⟩ := id hR
  by_cases hG : (0 ≤ row ∧ row < nI 3) ∧ (0 ≤ name ∧ name < nI 10)
  · obtain ⟨i, hi, rfl⟩ := pw_inP (by decide) hG.1
    obtain ⟨nm, hnm, rfl⟩ := pw_inP (by decide) hG.2
    obtain ⟨hn, hz, hch, hft⟩ := hrow i hi
    by_cases hf : Z i = 60
    · exact sim_r hR (-3) (lR_p hi (k_insert_f l D cI cP cR h qr qp md (rc 0) (rc 1) (rc 2) (rc 3) ro i (ao i) (cr i).1 (nI (cr i).2.1) (cr i).2.2 hi (by omega) q nm hnm (by omega))) (mlift (n_insert_f l D cI cP cR x t z rf rwa pl hd ha lo ol asa md T Z RF R P Hd HA Lo Ol AS i hi hz q nm hnm hf))
    · have hf2 : Z i < 60 := by omega
      by_cases hq : 0 ≤ q ∧ q ≤ nI (Z i)
      · obtain ⟨j, hj, rfl⟩ := pw_inL (by omega) hq
        exact ⟨nI (Z i + 1), md + 1, rc, RF, va_up cr i (Z i + 1, (cr i).2.1 + 1, upd (opn (cr i).2.2 j 1 (Z i)) j (nI ((md * 10) + nm))), upR T i (upd (opn (T i) j 1 (Z i)) j (nI ((md * 10) + nm))), updN Z i (Z i + 1), pg, R, P, Hd, HA, Lo, agF R Ol (nI i) (-1), AS,
            Rel_row hR hi (by omega) (by omega) (ag_ins hft hj (pw_nm1 (by omega))),
            lR hi (by simpa only [nI_add, hn] using k_insert l D cI cP cR h qr qp md (rc 0) (rc 1) (rc 2) (rc 3) ro i (ao i) (cr i).1 (nI (cr i).2.1) (cr i).2.2 hi (by omega) j nm (by omega) hnm (by omega)),
            n_insert l D cI cP cR x t z rf rwa pl hd ha lo ol asa md T Z RF R P Hd HA Lo Ol AS i hi hz j hj nm hnm hf2⟩
      · exact sim_ref hR (-5) 1 (by decide) (lRs hi (k_insert_p l D cI cP cR h qr qp md (rc 0) (rc 1) (rc 2) (rc 3) ro i (ao i) (cr i).1 (nI (cr i).2.1) (cr i).2.2 hi (by omega) q (by rw [hn]; exact hq) nm hnm (by omega))) (n_insert_p l D cI cP cR x t z rf rwa pl hd ha lo ol asa md T Z RF R P Hd HA Lo Ol AS i hi hz q hq nm hnm hf2)
  · exact sim_r hR (-1) (lB_p (k_insert_x l D cI cP cR h qr qp md (rc 0) (rc 1) (rc 2) (rc 3) ro row q name hG)) (mlift (n_insert_x l D cI cP cR x t z rf rwa pl hd ha lo ol asa md T Z RF R P Hd HA Lo Ol AS row q name hG))
set_option maxHeartbeats 4000000 in
theorem sim_find (hk : k ≤ 600) (hro : ∀ i j, i < 3 → j < 3 → ro i = ro j → i = j) (hR : Rel k md rc RF cr T Z pg R P Hd HA Lo Ol) (row name la : Int32) : Sim l D cI cP cR h qr qp ro ao po x t z rf rwa pl hd ha lo ol asa yX2_find wsX2_find ({ frames := 2, cells := 0, slots := 0, locals := 44 } : Room) yX3_find wsX3_find ({ frames := 2, cells := 0, slots := 0, locals := 47 } : Room) [.int row, .int name, .int la] k md rc RF cr T Z pg R P Hd HA Lo Ol AS := by
  obtain ⟨hmd, hrc, hrow, hpeg⟩ := id hR
  by_cases hG : (0 ≤ row ∧ row < nI 3) ∧ (0 ≤ name ∧ name < nI 10)
  · obtain ⟨i, hi, rfl⟩ := pw_inP (by decide) hG.1
    obtain ⟨nm, hnm, rfl⟩ := pw_inP (by decide) hG.2
    obtain ⟨hn, hz, hch, hft⟩ := hrow i hi
    have e := plc_ag (f := (cr i).2.2) (nI nm) la (Z i) hft
    exact sim_r hR (if plc (T i) (nI nm) la (Z i) = -1 then -6 else plc (T i) (nI nm) la (Z i)) (by have h9 := lR_p (po := po) (pg := pg) hi (k_find l D cI cP cR h qr qp md (rc 0) (rc 1) (rc 2) (rc 3) ro i (ao i) (cr i).1 (nI (cr i).2.1) (cr i).2.2 hi (by omega) nm hnm la); rw [hn, e] at h9; exact h9) (mlift (n_find l D cI cP cR x t z rf rwa pl hd ha lo ol asa md T Z RF R P Hd HA Lo Ol AS i hi hz nm hnm la))
  · exact sim_r hR (-1) (lB_p (k_find_x l D cI cP cR h qr qp md (rc 0) (rc 1) (rc 2) (rc 3) ro row name la hG)) (mlift (n_find_x l D cI cP cR x t z rf rwa pl hd ha lo ol asa md T Z RF R P Hd HA Lo Ol AS row name la hG))
set_option maxHeartbeats 4000000 in
theorem sim_has (hk : k ≤ 600) (hro : ∀ i j, i < 3 → j < 3 → ro i = ro j → i = j) (hR : Rel k md rc RF cr T Z pg R P Hd HA Lo Ol) (row name : Int32) : Sim l D cI cP cR h qr qp ro ao po x t z rf rwa pl hd ha lo ol asa yX2_has wsX2_has ({ frames := 2, cells := 0, slots := 0, locals := 44 } : Room) yX3_has wsX3_has ({ frames := 2, cells := 0, slots := 0, locals := 47 } : Room) [.int row, .int name] k md rc RF cr T Z pg R P Hd HA Lo Ol AS := by
  obtain ⟨hmd, hrc, hrow, hpeg⟩ := id hR
  by_cases hG : (0 ≤ row ∧ row < nI 3) ∧ (0 ≤ name ∧ name < nI 10)
  · obtain ⟨i, hi, rfl⟩ := pw_inP (by decide) hG.1
    obtain ⟨nm, hnm, rfl⟩ := pw_inP (by decide) hG.2
    obtain ⟨hn, hz, hch, hft⟩ := hrow i hi
    have e := plc_ag (f := (cr i).2.2) (nI nm) (nI 0) (Z i) hft
    exact sim_r hR (if plc (T i) (nI nm) (nI 0) (Z i) = -1 then nI 0 else nI 1) (by have h9 := lR_p (po := po) (pg := pg) hi (k_has l D cI cP cR h qr qp md (rc 0) (rc 1) (rc 2) (rc 3) ro i (ao i) (cr i).1 (nI (cr i).2.1) (cr i).2.2 hi (by omega) nm hnm); rw [hn, e] at h9; exact h9) (mlift (n_has l D cI cP cR x t z rf rwa pl hd ha lo ol asa md T Z RF R P Hd HA Lo Ol AS i hi hz nm hnm))
  · exact sim_r hR (-1) (lB_p (k_has_x l D cI cP cR h qr qp md (rc 0) (rc 1) (rc 2) (rc 3) ro row name hG)) (mlift (n_has_x l D cI cP cR x t z rf rwa pl hd ha lo ol asa md T Z RF R P Hd HA Lo Ol AS row name hG))
set_option maxHeartbeats 4000000 in
theorem sim_lose (hk : k ≤ 600) (hro : ∀ i j, i < 3 → j < 3 → ro i = ro j → i = j) (hR : Rel k md rc RF cr T Z pg R P Hd HA Lo Ol) (row name how : Int32) : Sim l D cI cP cR h qr qp ro ao po x t z rf rwa pl hd ha lo ol asa yX2_lose wsX2_lose ({ frames := 2, cells := 0, slots := 0, locals := 44 } : Room) yX3_lose wsX3_lose ({ frames := 2, cells := 0, slots := 0, locals := 47 } : Room) [.int row, .int name, .int how] k md rc RF cr T Z pg R P Hd HA Lo Ol AS := by
  obtain ⟨hmd, hrc, hrow, hpeg⟩ := id hR
  by_cases hG : (0 ≤ row ∧ row < nI 3) ∧ (0 ≤ name ∧ name < nI 10) ∧ (0 ≤ how ∧ how ≤ nI 2)
  · obtain ⟨i, hi, rfl⟩ := pw_inP (by decide) hG.1
    obtain ⟨nm, hnm, rfl⟩ := pw_inP (by decide) hG.2.1
    obtain ⟨hw, hw2, rfl⟩ := pw_inL (by decide) hG.2.2
    obtain ⟨hn, hz, hch, hft⟩ := hrow i hi
    have e := plc_ag (f := (cr i).2.2) (nI nm) (laF hw) (Z i) hft
    rcases plc_lt (T i) (nI nm) (laF hw) (Z i) hz with hp | ⟨j, hj, hp⟩
    · exact sim_r hR (nI 0) (lR_p hi (k_lose_0 l D cI cP cR h qr qp md (rc 0) (rc 1) (rc 2) (rc 3) ro i (ao i) (cr i).1 (nI (cr i).2.1) (cr i).2.2 hi (by omega) nm hw hnm hw2 (by rw [hn, e]; exact hp))) (mlift (n_lose_0 l D cI cP cR x t z rf rwa pl hd ha lo ol asa md T Z RF R P Hd HA Lo Ol AS i hi hz nm hw hnm hw2 hp))
    · exact ⟨nI 1, md, rc, RF, va_up cr i (Z i - 1, (cr i).2.1 + 1, clsF (cr i).2.2 j (Z i)), upR T i (clsF (T i) j (Z i)), updN Z i (Z i - 1), pg, R, P, Hd, HA, Lo, agF R Ol (nI i) (-1), AS,
          Rel_row hR hi (by omega) (by omega) (ag_cls hft hj),
          lR hi (by simpa only [nI_add, hn] using k_lose l D cI cP cR h qr qp md (rc 0) (rc 1) (rc 2) (rc 3) ro i (ao i) (cr i).1 (nI (cr i).2.1) (cr i).2.2 hi (by omega) nm hw hnm hw2 j (by omega) (by rw [hn, e]; exact hp)),
          n_lose l D cI cP cR x t z rf rwa pl hd ha lo ol asa md T Z RF R P Hd HA Lo Ol AS i hi hz nm hw hnm hw2 j hj hp⟩
  · exact sim_r hR (-1) (lB_p (k_lose_x l D cI cP cR h qr qp md (rc 0) (rc 1) (rc 2) (rc 3) ro row name how hG)) (mlift (n_lose_x l D cI cP cR x t z rf rwa pl hd ha lo ol asa md T Z RF R P Hd HA Lo Ol AS row name how hG))
set_option maxHeartbeats 4000000 in
theorem sim_size (hk : k ≤ 600) (hro : ∀ i j, i < 3 → j < 3 → ro i = ro j → i = j) (hR : Rel k md rc RF cr T Z pg R P Hd HA Lo Ol) (row : Int32) : Sim l D cI cP cR h qr qp ro ao po x t z rf rwa pl hd ha lo ol asa yX2_size wsX2_size ({ frames := 2, cells := 0, slots := 0, locals := 46 } : Room) yX3_size wsX3_size ({ frames := 2, cells := 0, slots := 0, locals := 47 } : Room) [.int row] k md rc RF cr T Z pg R P Hd HA Lo Ol AS := by
  obtain ⟨hmd, hrc, hrow, hpeg⟩ := id hR
  by_cases hG : (0 ≤ row ∧ row < nI 3)
  · obtain ⟨i, hi, rfl⟩ := pw_inP (by decide) hG
    obtain ⟨hn, hz, hch, hft⟩ := hrow i hi
    exact sim_r hR (nI (Z i)) (by have h9 := lR_p (po := po) (pg := pg) hi (k_size l D cI cP cR h qr qp md (rc 0) (rc 1) (rc 2) (rc 3) ro i (ao i) (cr i).1 (nI (cr i).2.1) (cr i).2.2 hi (by omega)); rw [hn] at h9; exact h9) (mlift (n_size l D cI cP cR x t z rf rwa pl hd ha lo ol asa md T Z RF R P Hd HA Lo Ol AS i hi hz))
  · exact sim_r hR (-1) (lB_p (k_size_x l D cI cP cR h qr qp md (rc 0) (rc 1) (rc 2) (rc 3) ro row hG)) (mlift (n_size_x l D cI cP cR x t z rf rwa pl hd ha lo ol asa md T Z RF R P Hd HA Lo Ol AS row hG))
set_option maxHeartbeats 4000000 in
theorem sim_sum (hk : k ≤ 600) (hro : ∀ i j, i < 3 → j < 3 → ro i = ro j → i = j) (hR : Rel k md rc RF cr T Z pg R P Hd HA Lo Ol) (row : Int32) : Sim l D cI cP cR h qr qp ro ao po x t z rf rwa pl hd ha lo ol asa yX2_sum wsX2_sum ({ frames := 2, cells := 0, slots := 0, locals := 46 } : Room) yX3_sum wsX3_sum ({ frames := 2, cells := 0, slots := 0, locals := 47 } : Room) [.int row] k md rc RF cr T Z pg R P Hd HA Lo Ol AS := by
  obtain ⟨hmd, hrc, hrow, hpeg⟩ := id hR
  by_cases hG : (0 ≤ row ∧ row < nI 3)
  · obtain ⟨i, hi, rfl⟩ := pw_inP (by decide) hG
    obtain ⟨hn, hz, hch, hft⟩ := hrow i hi
    have e := smF_ag (f := (cr i).2.2) (Z i) hft
    exact sim_r hR (smF (T i) (Z i)) (by have h9 := lR_p (po := po) (pg := pg) hi (k_sum l D cI cP cR h qr qp md (rc 0) (rc 1) (rc 2) (rc 3) ro i (ao i) (cr i).1 (nI (cr i).2.1) (cr i).2.2 hi (by omega)); rw [hn, e] at h9; exact h9) (mlift (n_sum l D cI cP cR x t z rf rwa pl hd ha lo ol asa md T Z RF R P Hd HA Lo Ol AS i hi hz))
  · exact sim_r hR (-1) (lB_p (k_sum_x l D cI cP cR h qr qp md (rc 0) (rc 1) (rc 2) (rc 3) ro row hG)) (mlift (n_sum_x l D cI cP cR x t z rf rwa pl hd ha lo ol asa md T Z RF R P Hd HA Lo Ol AS row hG))
set_option maxHeartbeats 4000000 in
theorem sim_turn (hk : k ≤ 600) (hro : ∀ i j, i < 3 → j < 3 → ro i = ro j → i = j) (hR : Rel k md rc RF cr T Z pg R P Hd HA Lo Ol) (row : Int32) : Sim l D cI cP cR h qr qp ro ao po x t z rf rwa pl hd ha lo ol asa yX2_turn wsX2_turn ({ frames := 2, cells := 0, slots := 0, locals := 46 } : Room) yX3_turn wsX3_turn ({ frames := 2, cells := 0, slots := 0, locals := 47 } : Room) [.int row] k md rc RF cr T Z pg R P Hd HA Lo Ol AS := by
  obtain ⟨hmd, hrc, hrow, hpeg⟩ := id hR
  by_cases hG : (0 ≤ row ∧ row < nI 3)
  · obtain ⟨i, hi, rfl⟩ := pw_inP (by decide) hG
    obtain ⟨hn, hz, hch, hft⟩ := hrow i hi
    exact ⟨nI (Z i), md, rc, RF, va_up cr i (Z i, (cr i).2.1, turF (cr i).2.2 (Z i)), upR T i (putF (T i) 0 (tnA AS (T i) (Z i) (Z i)) (Z i)), Z, pg, R, P, Hd, HA, Lo, Ol, tnA AS (T i) (Z i) (Z i),
        Rel_lay hR hi (by omega) (ag_tur hft),
        lR hi (by simpa only [hn] using k_turn l D cI cP cR h qr qp md (rc 0) (rc 1) (rc 2) (rc 3) ro i (ao i) (cr i).1 (nI (cr i).2.1) (cr i).2.2 hi (by omega)),
        n_turn l D cI cP cR x t z rf rwa pl hd ha lo ol asa md T Z RF R P Hd HA Lo Ol AS i hi hz⟩
  · exact sim_r hR (-1) (lB_p (k_turn_x l D cI cP cR h qr qp md (rc 0) (rc 1) (rc 2) (rc 3) ro row hG)) (mlift (n_turn_x l D cI cP cR x t z rf rwa pl hd ha lo ol asa md T Z RF R P Hd HA Lo Ol AS row hG))
set_option maxHeartbeats 4000000 in
theorem sim_clear (hk : k ≤ 600) (hro : ∀ i j, i < 3 → j < 3 → ro i = ro j → i = j) (hR : Rel k md rc RF cr T Z pg R P Hd HA Lo Ol) (row : Int32) : Sim l D cI cP cR h qr qp ro ao po x t z rf rwa pl hd ha lo ol asa yX2_clear wsX2_clear ({ frames := 2, cells := 0, slots := 0, locals := 46 } : Room) yX3_clear wsX3_clear ({ frames := 2, cells := 0, slots := 0, locals := 47 } : Room) [.int row] k md rc RF cr T Z pg R P Hd HA Lo Ol AS := by
  obtain ⟨hmd, hrc, hrow, hpeg⟩ := id hR
  by_cases hG : (0 ≤ row ∧ row < nI 3)
  · obtain ⟨i, hi, rfl⟩ := pw_inP (by decide) hG
    obtain ⟨hn, hz, hch, hft⟩ := hrow i hi
    by_cases hz0 : Z i = 0
    · exact ⟨nI (Z i), md, rc, RF, va_up cr i (0, (cr i).2.1, (cr i).2.2), T, updN Z i 0, pg, R, P, Hd, HA, Lo, Ol, AS,
          by have h9 := Rel_lay hR hi (md2 := md) (by omega) (f := (cr i).2.2) (g := T i) hft; rw [upR_i, hz0] at h9; rw [show updN Z i 0 = Z from by rw [← hz0, updN_i]]; exact h9,
          lR hi (by have h9 := k_clear l D cI cP cR h qr qp md (rc 0) (rc 1) (rc 2) (rc 3) ro i (ao i) (cr i).1 (nI (cr i).2.1) (cr i).2.2 hi (by omega); rw [if_pos (show 0 = (cr i).1 by omega), hn] at h9; simpa only [hn] using h9),
          n_clear_0 l D cI cP cR x t z rf rwa pl hd ha lo ol asa md T Z RF R P Hd HA Lo Ol AS i hi hz hz0⟩
    · exact ⟨nI (Z i), md, rc, RF, va_up cr i (0, (cr i).2.1 + 1, (cr i).2.2), T, updN Z i 0, pg, R, P, Hd, HA, Lo, agF R Ol (nI i) (-1), AS,
          by have h9 := Rel_row hR hi (md2 := md) (n := 0) (by omega) (by omega) (f := (cr i).2.2) (g := T i) (fun j hj => absurd hj (Nat.not_lt_zero j)); rw [upR_i] at h9; exact h9,
          lR hi (by have h9 := k_clear l D cI cP cR h qr qp md (rc 0) (rc 1) (rc 2) (rc 3) ro i (ao i) (cr i).1 (nI (cr i).2.1) (cr i).2.2 hi (by omega); rw [if_neg (show ¬ 0 = (cr i).1 by omega)] at h9; simpa only [nI_add, hn] using h9),
          n_clear l D cI cP cR x t z rf rwa pl hd ha lo ol asa md T Z RF R P Hd HA Lo Ol AS i hi hz hz0⟩
  · exact sim_r hR (-1) (lB_p (k_clear_x l D cI cP cR h qr qp md (rc 0) (rc 1) (rc 2) (rc 3) ro row hG)) (mlift (n_clear_x l D cI cP cR x t z rf rwa pl hd ha lo ol asa md T Z RF R P Hd HA Lo Ol AS row hG))
set_option maxHeartbeats 4000000 in
theorem sim_prune (hk : k ≤ 600) (hro : ∀ i j, i < 3 → j < 3 → ro i = ro j → i = j) (hR : Rel k md rc RF cr T Z pg R P Hd HA Lo Ol) (row : Int32) : Sim l D cI cP cR h qr qp ro ao po x t z rf rwa pl hd ha lo ol asa yX2_prune wsX2_prune ({ frames := 2, cells := 0, slots := 0, locals := 46 } : Room) yX3_prune wsX3_prune ({ frames := 2, cells := 0, slots := 0, locals := 47 } : Room) [.int row] k md rc RF cr T Z pg R P Hd HA Lo Ol AS := by
  obtain ⟨hmd, hrc, hrow, hpeg⟩ := id hR
  by_cases hG : (0 ≤ row ∧ row < nI 3)
  · obtain ⟨i, hi, rfl⟩ := pw_inP (by decide) hG
    obtain ⟨hn, hz, hch, hft⟩ := hrow i hi
    obtain ⟨e1, -, e3⟩ := prF_ag (f := (cr i).2.2) (Z i) hft
    have hle := (prF_le (T i) (Z i)).1
    by_cases hk2 : (prF (T i) (Z i)).1 = Z i
    · exact ⟨nI (Z i - (prF (T i) (Z i)).1), md, rc, RF, va_up cr i ((prF (T i) (Z i)).1, (cr i).2.1, (prF (cr i).2.2 (Z i)).2.2), upR T i (prF (T i) (Z i)).2.2, updN Z i (prF (T i) (Z i)).1, pg, R, P, Hd, HA, Lo, Ol, AS,
          by have h9 := Rel_lay hR hi (md2 := md) (by omega) (f := (prF (cr i).2.2 (Z i)).2.2) (g := (prF (T i) (Z i)).2.2) (by rw [← hk2]; rw [hk2]; intro j hj; exact e3 j (by omega)); rw [hk2, updN_i]; exact h9,
          lR hi (by have h9 := k_prune l D cI cP cR h qr qp md (rc 0) (rc 1) (rc 2) (rc 3) ro i (ao i) (cr i).1 (nI (cr i).2.1) (cr i).2.2 hi (by omega); rw [hn, e1, if_pos hk2] at h9; exact (by simpa only [hn] using h9)),
          n_prune_0 l D cI cP cR x t z rf rwa pl hd ha lo ol asa md T Z RF R P Hd HA Lo Ol AS i hi hz hk2⟩
    · exact ⟨nI (Z i - (prF (T i) (Z i)).1), md, rc, RF, va_up cr i ((prF (T i) (Z i)).1, (cr i).2.1 + 1, (prF (cr i).2.2 (Z i)).2.2), upR T i (prF (T i) (Z i)).2.2, updN Z i (prF (T i) (Z i)).1, pg, R, P, Hd, HA, Lo, agF R Ol (nI i) (-1), AS,
          Rel_row hR hi (by omega) (by omega) e3,
          lR hi (by have h9 := k_prune l D cI cP cR h qr qp md (rc 0) (rc 1) (rc 2) (rc 3) ro i (ao i) (cr i).1 (nI (cr i).2.1) (cr i).2.2 hi (by omega); rw [hn, e1, if_neg hk2] at h9; exact (by simpa only [nI_add, hn] using h9)),
          n_prune l D cI cP cR x t z rf rwa pl hd ha lo ol asa md T Z RF R P Hd HA Lo Ol AS i hi hz (by omega)⟩
  · exact sim_r hR (-1) (lB_p (k_prune_x l D cI cP cR h qr qp md (rc 0) (rc 1) (rc 2) (rc 3) ro row hG)) (mlift (n_prune_x l D cI cP cR x t z rf rwa pl hd ha lo ol asa md T Z RF R P Hd HA Lo Ol AS row hG))
set_option maxHeartbeats 4000000 in
theorem sim_all (hk : k ≤ 600) (hro : ∀ i j, i < 3 → j < 3 → ro i = ro j → i = j) (hR : Rel k md rc RF cr T Z pg R P Hd HA Lo Ol) (row q other : Int32) : Sim l D cI cP cR h qr qp ro ao po x t z rf rwa pl hd ha lo ol asa yX2_all wsX2_all ({ frames := 2, cells := 0, slots := 0, locals := 46 } : Room) yX3_all wsX3_all ({ frames := 3, cells := 0, slots := 0, locals := 65 } : Room) [.int row, .int q, .int other] k md rc RF cr T Z pg R P Hd HA Lo Ol AS := by
  obtain ⟨hmd, hrc, hrow, hpeg⟩ := id hR
  by_cases hG : (0 ≤ row ∧ row < nI 3) ∧ (0 ≤ other ∧ other < nI 3) ∧ ¬ row = other
  · obtain ⟨i, hi, rfl⟩ := pw_inP (by decide) hG.1
    obtain ⟨j, hj, rfl⟩ := pw_inP (by decide) hG.2.1
    have hne : ¬ i = j := fun e => hG.2.2 (by rw [e])
    obtain ⟨hn, hz, hch, hft⟩ := hrow i hi
    obtain ⟨hnj, hzj, hchj, hftj⟩ := hrow j hj
    by_cases hz0 : Z j = 0
    · exact sim_r hR (nI (Z i)) (by have h9 := lRR_p (po := po) (pg := pg) hi hj hne (k_all_0 l D cI cP cR h qr qp md (rc 0) (rc 1) (rc 2) (rc 3) ro i j (ao i) (cr i).1 (nI (cr i).2.1) (cr i).2.2 (ao j) (cr j).1 (nI (cr j).2.1) (cr j).2.2 hi hj hne (fun e => hne (hro i j hi hj e)) (by omega) (by omega) q (by omega)); rw [hn] at h9; exact h9) (mlift (n_all_0 l D cI cP cR x t z rf rwa pl hd ha lo ol asa md T Z RF R P Hd HA Lo Ol AS i j hi hj hne hz hzj q hz0))
    · by_cases hf : Z i + Z j ≤ 60
      · by_cases hq1 : q = -1
        · subst hq1
          exact ⟨nI (Z i + Z j), md, rc, RF, va_up cr i (Z i + Z j, (cr i).2.1 + 1, putF (opn (cr i).2.2 (Z i) (Z j) (Z i)) (Z i) (cr j).2.2 (Z j)), upR T i (putF (opn (T i) (Z i) (Z j) (Z i)) (Z i) (T j) (Z j)), updN Z i (Z i + Z j), pg, R, P, Hd, HA, Lo, agF R Ol (nI i) (-1), AS,
              Rel_row hR hi (by omega) (by omega) (ag_all hft hftj (Nat.le_refl _)),
              lRR hi hj hne (by simpa only [nI_add, hn, hnj] using k_all_e l D cI cP cR h qr qp md (rc 0) (rc 1) (rc 2) (rc 3) ro i j (ao i) (cr i).1 (nI (cr i).2.1) (cr i).2.2 (ao j) (cr j).1 (nI (cr j).2.1) (cr j).2.2 hi hj hne (fun e => hne (hro i j hi hj e)) (by omega) (by omega) (by omega) (by omega)),
              n_all_e l D cI cP cR x t z rf rwa pl hd ha lo ol asa md T Z RF R P Hd HA Lo Ol AS i j hi hj hne hz hzj hz0 hf⟩
        · by_cases hq : 0 ≤ q ∧ q ≤ nI (Z i)
          · obtain ⟨q, hq2, rfl⟩ := pw_inL (by omega) hq
            exact ⟨nI (Z i + Z j), md, rc, RF, va_up cr i (Z i + Z j, (cr i).2.1 + 1, putF (opn (cr i).2.2 q (Z j) (Z i)) q (cr j).2.2 (Z j)), upR T i (putF (opn (T i) q (Z j) (Z i)) q (T j) (Z j)), updN Z i (Z i + Z j), pg, R, P, Hd, HA, Lo, agF R Ol (nI i) (-1), AS,
                Rel_row hR hi (by omega) (by omega) (ag_all hft hftj hq2),
                lRR hi hj hne (by simpa only [nI_add, hn, hnj] using k_all l D cI cP cR h qr qp md (rc 0) (rc 1) (rc 2) (rc 3) ro i j (ao i) (cr i).1 (nI (cr i).2.1) (cr i).2.2 (ao j) (cr j).1 (nI (cr j).2.1) (cr j).2.2 hi hj hne (fun e => hne (hro i j hi hj e)) (by omega) (by omega) q (by omega) (by omega) (by omega)),
                n_all l D cI cP cR x t z rf rwa pl hd ha lo ol asa md T Z RF R P Hd HA Lo Ol AS i j hi hj hne hz hzj q hz0 hf hq2⟩
          · exact sim_ref hR (-5) 1 (by decide) (lRRs hi hj hne (k_all_p l D cI cP cR h qr qp md (rc 0) (rc 1) (rc 2) (rc 3) ro i j (ao i) (cr i).1 (nI (cr i).2.1) (cr i).2.2 (ao j) (cr j).1 (nI (cr j).2.1) (cr j).2.2 hi hj hne (fun e => hne (hro i j hi hj e)) (by omega) (by omega) q (by omega) (by omega) hq1 (by rw [hn]; exact hq))) (n_all_p l D cI cP cR x t z rf rwa pl hd ha lo ol asa md T Z RF R P Hd HA Lo Ol AS i j hi hj hne hz hzj q hz0 hf hq1 hq)
      · exact sim_r hR (-3) (lRR_p hi hj hne (k_all_f l D cI cP cR h qr qp md (rc 0) (rc 1) (rc 2) (rc 3) ro i j (ao i) (cr i).1 (nI (cr i).2.1) (cr i).2.2 (ao j) (cr j).1 (nI (cr j).2.1) (cr j).2.2 hi hj hne (fun e => hne (hro i j hi hj e)) (by omega) (by omega) q (by omega) (by omega))) (mlift (n_all_f l D cI cP cR x t z rf rwa pl hd ha lo ol asa md T Z RF R P Hd HA Lo Ol AS i j hi hj hne hz hzj q hz0 hf))
  · exact sim_r hR (-1) (lB_p (k_all_x l D cI cP cR h qr qp md (rc 0) (rc 1) (rc 2) (rc 3) ro row q other hG)) (mlift (n_all_x l D cI cP cR x t z rf rwa pl hd ha lo ol asa md T Z RF R P Hd HA Lo Ol AS row q other hG))
set_option maxHeartbeats 4000000 in
theorem sim_weave (hk : k ≤ 600) (hro : ∀ i j, i < 3 → j < 3 → ro i = ro j → i = j) (hR : Rel k md rc RF cr T Z pg R P Hd HA Lo Ol) (row other : Int32) : Sim l D cI cP cR h qr qp ro ao po x t z rf rwa pl hd ha lo ol asa yX2_weave wsX2_weave ({ frames := 2, cells := 0, slots := 0, locals := 46 } : Room) yX3_weave wsX3_weave ({ frames := 3, cells := 0, slots := 0, locals := 65 } : Room) [.int row, .int other] k md rc RF cr T Z pg R P Hd HA Lo Ol AS := by
  obtain ⟨hmd, hrc, hrow, hpeg⟩ := id hR
  by_cases hG : (0 ≤ row ∧ row < nI 3) ∧ (0 ≤ other ∧ other < nI 3) ∧ ¬ row = other
  · obtain ⟨i, hi, rfl⟩ := pw_inP (by decide) hG.1
    obtain ⟨j, hj, rfl⟩ := pw_inP (by decide) hG.2.1
    have hne : ¬ i = j := fun e => hG.2.2 (by rw [e])
    obtain ⟨hn, hz, hch, hft⟩ := hrow i hi
    obtain ⟨hnj, hzj, hchj, hftj⟩ := hrow j hj
    by_cases hf : Z i + Z j ≤ 60
    · by_cases hz0 : Z j = 0
      · exact sim_r hR (nI (Z i)) (by have h9 := lRR_p (po := po) (pg := pg) hi hj hne (k_weave_0 l D cI cP cR h qr qp md (rc 0) (rc 1) (rc 2) (rc 3) ro i j (ao i) (cr i).1 (nI (cr i).2.1) (cr i).2.2 (ao j) (cr j).1 (nI (cr j).2.1) (cr j).2.2 hi hj hne (fun e => hne (hro i j hi hj e)) (by omega) (by omega) (by omega)); rw [hn] at h9; exact h9) (mlift (n_weave_0 l D cI cP cR x t z rf rwa pl hd ha lo ol asa md T Z RF R P Hd HA Lo Ol AS i j hi hj hne hz hzj hz0))
      · exact ⟨nI (Z i + Z j), md, rc, RF, va_up cr i (Z i + Z j, (cr i).2.1 + 1, wvF (cr i).2.2 (cr j).2.2 (Z i) (Z j)), upR T i (putF (T i) 0 (mgF (T i) (T j) (Z i) (Z j) AS (max (Z i) (Z j))).2 (Z i + Z j)), updN Z i (Z i + Z j), pg, R, P, Hd, HA, Lo, agF R Ol (nI i) (-1), (mgF (T i) (T j) (Z i) (Z j) AS (max (Z i) (Z j))).2,
            Rel_row hR hi (by omega) (by omega) (ag_wv hft hftj),
            lRR hi hj hne (by simpa only [nI_add, hn, hnj] using k_weave l D cI cP cR h qr qp md (rc 0) (rc 1) (rc 2) (rc 3) ro i j (ao i) (cr i).1 (nI (cr i).2.1) (cr i).2.2 (ao j) (cr j).1 (nI (cr j).2.1) (cr j).2.2 hi hj hne (fun e => hne (hro i j hi hj e)) (by omega) (by omega) (by omega) (by omega)),
            n_weave l D cI cP cR x t z rf rwa pl hd ha lo ol asa md T Z RF R P Hd HA Lo Ol AS i j hi hj hne hz hzj hz0 hf⟩
    · have hz0 : ¬ Z j = 0 := by omega
      exact sim_r hR (-3) (lRR_p hi hj hne (k_weave_f l D cI cP cR h qr qp md (rc 0) (rc 1) (rc 2) (rc 3) ro i j (ao i) (cr i).1 (nI (cr i).2.1) (cr i).2.2 (ao j) (cr j).1 (nI (cr j).2.1) (cr j).2.2 hi hj hne (fun e => hne (hro i j hi hj e)) (by omega) (by omega) (by omega))) (mlift (n_weave_f l D cI cP cR x t z rf rwa pl hd ha lo ol asa md T Z RF R P Hd HA Lo Ol AS i j hi hj hne hz hzj hz0 hf))
  · exact sim_r hR (-1) (lB_p (k_weave_x l D cI cP cR h qr qp md (rc 0) (rc 1) (rc 2) (rc 3) ro row other hG)) (mlift (n_weave_x l D cI cP cR x t z rf rwa pl hd ha lo ol asa md T Z RF R P Hd HA Lo Ol AS row other hG))
theorem pgL_e {i q : Nat} (hi : i < 3) (hro : ∀ i j, i < 3 → j < 3 → ro i = ro j → i = j) (hg : ∀ a, (pg q).1 = some a → a < 3) : (if (pg q).1.map ro = some (ro i) then none else (pg q).1.map ro) = (pgL pg i q).1.map ro := by
  unfold pgL
  cases e : (pg q).1 with
  | none => simp
  | some a =>
    by_cases e2 : a = i
    · subst e2; simp
    · have e3 : ¬ ro a = ro i := fun z => e2 (hro a i (hg a e) hi z)
      simp [e2, e3]
theorem pgL_3 {k2 : PgT} {r p2 hd2 ha2 lo2 ol2 : Int32} (hg : PegR cr r p2 hd2 ha2 lo2 ol2 k2) : ∀ a, k2.1 = some a → a < 3 := by
  intro a ha2
  rcases hg with ⟨-, e, -⟩ | ⟨i, hi, -, e, -⟩
  · rw [e] at ha2; cases ha2
  · rw [e] at ha2; cases ha2; exact hi
set_option maxHeartbeats 4000000 in
theorem sim_copy (hk : k ≤ 600) (hro : ∀ i j, i < 3 → j < 3 → ro i = ro j → i = j) (hR : Rel k md rc RF cr T Z pg R P Hd HA Lo Ol) (row other : Int32) : Sim l D cI cP cR h qr qp ro ao po x t z rf rwa pl hd ha lo ol asa yX2_copy wsX2_copy ({ frames := 2, cells := 0, slots := 0, locals := 46 } : Room) yX3_copy wsX3_copy ({ frames := 3, cells := 0, slots := 0, locals := 65 } : Room) [.int row, .int other] k md rc RF cr T Z pg R P Hd HA Lo Ol AS := by
  obtain ⟨hmd, hrc, hrow, hpeg⟩ := id hR
  by_cases hG : (0 ≤ row ∧ row < nI 3) ∧ (0 ≤ other ∧ other < nI 3) ∧ ¬ row = other
  · obtain ⟨i, hi, rfl⟩ := pw_inP (by decide) hG.1
    obtain ⟨j, hj, rfl⟩ := pw_inP (by decide) hG.2.1
    have hne : ¬ i = j := fun e => hG.2.2 (by rw [e])
    obtain ⟨hn, hz, hch, hft⟩ := hrow i hi
    obtain ⟨hnj, hzj, hchj, hftj⟩ := hrow j hj
    exact ⟨nI (Z j), md, rc, RF, va_up cr i (Z j, (cr i).2.1, putF (cr i).2.2 0 (cr j).2.2 (Z j)), upR T i (putF (T i) 0 (T j) (Z j)), updN Z i (Z j), pgL pg i, lvK R R (nI i) (-1) 4, P, lvK R Hd (nI i) (-1) 4, HA, lvK R Lo (nI i) (nI 0) 4, lvK R Ol (nI i) (nI 0) 4, AS,
        Rel_copy hR hi hzj (ag_cpy hftj),
        lCP hi hj hne (by have h9 := k_copy l D cI cP cR h qr qp md (rc 0) (rc 1) (rc 2) (rc 3) ro i j (ao i) (cr i).1 (nI (cr i).2.1) (cr i).2.2 (ao j) (cr j).1 (nI (cr j).2.1) (cr j).2.2 hi hj hne (fun e => hne (hro i j hi hj e)) (by omega) (by omega) po ((pg 0).1.map ro) (pg 0).2.1 (nI (pg 0).2.2.1) (pg 0).2.2.2.1 (pg 0).2.2.2.2.1 (pg 0).2.2.2.2.2 ((pg 1).1.map ro) (pg 1).2.1 (nI (pg 1).2.2.1) (pg 1).2.2.2.1 (pg 1).2.2.2.2.1 (pg 1).2.2.2.2.2 ((pg 2).1.map ro) (pg 2).2.1 (nI (pg 2).2.2.1) (pg 2).2.2.2.1 (pg 2).2.2.2.2.1 (pg 2).2.2.2.2.2 ((pg 3).1.map ro) (pg 3).2.1 (nI (pg 3).2.2.1) (pg 3).2.2.2.1 (pg 3).2.2.2.2.1 (pg 3).2.2.2.2.2; rw [pgL_e hi hro (pgL_3 (hpeg 0 (by decide))), pgL_e hi hro (pgL_3 (hpeg 1 (by decide))), pgL_e hi hro (pgL_3 (hpeg 2 (by decide))), pgL_e hi hro (pgL_3 (hpeg 3 (by decide)))] at h9; simpa only [hnj] using h9),
        n_copy l D cI cP cR x t z rf rwa pl hd ha lo ol asa md T Z RF R P Hd HA Lo Ol AS i j hi hj hne hz hzj⟩
  · exact sim_r hR (-1) (lB_p (k_copy_x l D cI cP cR h qr qp md (rc 0) (rc 1) (rc 2) (rc 3) ro row other hG)) (mlift (n_copy_x l D cI cP cR x t z rf rwa pl hd ha lo ol asa md T Z RF R P Hd HA Lo Ol AS row other hG))
end SIM
