/-! THE CLAIM OUT OF ONE WALK OF THE LAW'S BODY. Your part is whole_start (and what it stands on); all else here is the same for every law, but numbers. -/
def R_law : String := "PegrowLaw"
def lw_P (b : Addr) (xs : List Int32) (args : Array Value) (s : State) : Prop := args = #[.ref b] ∧ s.IntsAt b xs ∧ xs.length ≤ 2560 ∧ (Jvm.Cond.and given_1 narrow_1).before args s = true
def lw_Q (_ : Array Value) (s : State) (o : Outcome) (t : State) : Prop := o = .returned (some (.int 1)) ∧ Framed s o t [] 600000 7302250
def lw_Z (below : List Frame) (a : Array Value) (s : State) : State → Prop := fun t => ∃ o, t.status = .running ∧ Ended t below o ∧ lw_Q a s o t
/-- the law's own end, with 1 on the stack, nothing written that was there before, its room as the claim has it -/
theorem lw_ret {p : Program} {l : Launch} {e : Env} {s : State} {m : MethodId} {below : List Frame} {meth : Method} {c : Code} {b : Nat} (hx : p.tables.exec = Jvm.exec) (hb : c.code = code) (hr : meth.sig.returnType = ret) (hlocks : meth.locks = false) {pc : Nat} {H : Heap} {ls : Array Slot} (hdg : decode code pc = .ok (.ireturn, 1)) : W p l e room_1 s m #[Value.ref b] below meth c H [] 600000 7302250 (lw_Z below #[Value.ref b] s) (F0 m pc ls [.int 1]) := by
  intro T hT X
  obtain ⟨fs, hret, hrun, hended, hW, hframe⟩ := X.leave (v := some (.int 1)) (hlocks := hlocks) (fun h => by rw [hr] at h; cases h)
  have hmeth' : T.vm.method? m = some meth := X.method'
  refine ⟨T.setFrames fs, ?_, .returned (some (.int 1)), hrun, hended, rfl, ⟨_, rfl⟩, hW, hframe⟩
  jvm_step X.here [X.here.top, hx, hb, hdg, hmeth', hr, ret, narrow_b1]
  (try refine ⟨rfl, ?_⟩); (try refine ⟨rfl, ?_⟩)
  first | (intro acts; rw [hret _ acts rfl rfl rfl]) | rw [hret _ _ rfl rfl rfl]
  exact Steps.refl _
/-- what holds at the law's entry: the machine, the code, the tables' words (any of lw_tbl by 'hts w (by decide +kernel)'), the script of L ints xs at the cell b, what the Statement gives of the start (any of its parts by flat_of_before) -/
def lw_At (p : Program) (s : State) (m : MethodId) (meth : Method) (c : Code) (b L : Nat) (xs : Nat → Int32) : Prop :=
  p.tables.exec = Jvm.exec ∧ c.code = code ∧ meth.sig.returnType = ret ∧ c.maxLocals = 4 ∧ s.vm.findClass R_law = some m.cls ∧ (∀ w ∈ lw_tbl, w.before #[Value.ref b] s = true) ∧ va_X b L xs s s.heap ∧ b < s.heap.size ∧ meth.locks = false ∧ (Jvm.Cond.and given_1 narrow_1).before #[Value.ref b] s = true
theorem pw_sld {p : Program} {l : Launch} {e : Env} {R : Room} {s : State} {m : MethodId} {args : Array Value} {below : List Frame} {meth : Method} {c : Code} {H : Heap} {locs : List Loc} {cells slots : Nat} {Q : State → Prop} {cc : ByteArray} {pc : Nat} {ls : Array Slot} {rest : List Value} {A : Nat → Prop} {H0 : Heap} (hexec : p.tables.exec = Jvm.exec) (hb : c.code = cc) {b L : Nat} {xs : Nat → Int32} (hX : va_X b L xs s H0) (hbl : b < H0.size) (hbA : ¬ A b) (hS : va_S A H0 H locs) {j : Nat} (hj : j < L) (hL : L < 2147483648) (hdg : decode cc pc = .ok (.iaload, 1))
    (kk : W p l e R s m args below meth c H locs cells slots Q (F0 m (pc + 1) ls (.int (xs j) :: rest))) : W p l e R s m args below meth c H locs cells slots Q (F0 m pc ls (.int (nI j) :: .ref b :: rest)) :=
  va_sld hexec hb hX hbl hbA hS (vp_in_nI hj hL) hdg (by rw [nI_clamp (Nat.lt_trans hj hL)]; exact kk)
theorem lw_lt {i L : Nat} (hi : i < 4000) (hL : L < 4000) : nI L - nI 5 < nI i ↔ L < i + 5 := by
  rw [Int32.lt_iff_toInt_lt, pk_sub_toInt (by omega) (by omega), nI_toInt (by omega)]
  omega
section LAW
variable {p : Program} {l : Launch} {e : Env} {s : State} {m : MethodId} {below : List Frame} {meth : Method} {c : Code} {b L : Nat} {xs : Nat → Int32} {D : va_G} {cI cP cR : ClassId} {h qr qp : Nat} {ro ao po : Nat → Nat} {x t z rf rwa pl hd ha lo ol asa : Nat} {kk : Nat}
variable {md : Nat} {rc RF : Nat → Int32} {cr : Nat → Nat × Nat × (Nat → Int32)} {T : Nat → Nat → Int32} {Z : Nat → Nat} {pg : Nat → PgT} {R P Hd HA Lo Ol AS : Nat → Int32}
set_option maxHeartbeats 4000000 in
set_option maxRecDepth 100000 in
theorem lc_put (hL : L ≤ 2560) (C0 : lw_At p s m meth c b L xs) (hK : pw_K D cI cP cR s) (hro : ∀ i j, i < 3 → j < 3 → ro i = ro j → i = j) (h5 : 5 * kk + 5 ≤ L) (hR : Rel kk md rc RF cr T Z pg R P Hd HA Lo Ol) (cont : ∀ (md2 : Nat) (rc2 RF2 : Nat → Int32) (cr2 : Nat → Nat × Nat × (Nat → Int32)) (T2 : Nat → Nat → Int32) (Z2 : Nat → Nat) (pg2 : Nat → PgT) (R2 P2 Hd2 HA2 Lo2 Ol2 AS2 : Nat → Int32), Rel (kk + 1) md2 rc2 RF2 cr2 T2 Z2 pg2 R2 P2 Hd2 HA2 Lo2 Ol2 → ∀ (H : Heap) (locs : List Loc), va_P D vwCl (cW cI cP cR h qr qp ro ao po md2 rc2 cr2 pg2 ++ mW cI x t z rf rwa pl hd ha lo ol asa md2 T2 Z2 RF2 R2 P2 Hd2 HA2 Lo2 Ol2 AS2) H → va_D (fun q : Nat => s.heap.size ≤ q) (cW cI cP cR h qr qp ro ao po md2 rc2 cr2 pg2 ++ mW cI x t z rf rwa pl hd ha lo ol asa md2 T2 Z2 RF2 R2 P2 Hd2 HA2 Lo2 Ol2 AS2) → va_S (fun q : Nat => s.heap.size ≤ q) s.heap H locs → ∀ ls : Array Slot, lv_has ls 4 [(3, .int (nI (5 * kk))), (0, .ref b), (1, .ref h), (2, .ref x)] → W p l e room_1 s m #[Value.ref b] below meth c H locs 24 525 (lw_Z below #[Value.ref b] s) (F0 m 1111 ls [])) : ∀ (H : Heap) (locs : List Loc), va_P D vwCl (cW cI cP cR h qr qp ro ao po md rc cr pg ++ mW cI x t z rf rwa pl hd ha lo ol asa md T Z RF R P Hd HA Lo Ol AS) H → va_D (fun q : Nat => s.heap.size ≤ q) (cW cI cP cR h qr qp ro ao po md rc cr pg ++ mW cI x t z rf rwa pl hd ha lo ol asa md T Z RF R P Hd HA Lo Ol AS) → va_S (fun q : Nat => s.heap.size ≤ q) s.heap H locs → ∀ ls : Array Slot, lv_has ls 4 [(3, .int (nI (5 * kk))), (0, .ref b), (1, .ref h), (2, .ref x)] → W p l e room_1 s m #[Value.ref b] below meth c H locs 24 525 (lw_Z below #[Value.ref b] s) (F0 m 156 ls []) := by
  obtain ⟨hx, hb, hr, hml, hown, hts, hX, hbl, hlocks, hgv⟩ := C0
  have htl : ∀ w ∈ wsL_law, w.before #[Value.ref b] s = true := fun w hw => hts w (wsL_law_in w hw)
  have hA : ∀ q : Nat, s.heap.size ≤ q → (fun q : Nat => s.heap.size ≤ q) q := fun _ h => h
  have hbA : ¬ (fun q : Nat => s.heap.size ≤ q) b := Nat.not_le.mpr hbl
  intro H locs hP hD hS ls hl
  refine lv_aload_n hx hb dL_law_156 rfl (lv_at hl 2 rfl) ?_
  refine lv_aload_n hx hb dL_law_157 rfl (lv_at hl 1 rfl) ?_
  refine lv_iload_n hx hb dL_law_158 rfl (lv_at hl 0 rfl) ?_
  refine lv_iconst (v := nI 1) hx hb dL_law_159 (by decide) ?_
  refine pw_iadd hx hb dL_law_160 ?_
  refine pw_sld hx hb hX hbl hbA hS (show (5 * kk) + 1 < L by omega) (by omega) dL_law_161 ?_
  refine lv_aload_n hx hb dL_law_162 rfl (lv_at hl 1 rfl) ?_
  refine lv_iload_n hx hb dL_law_163 rfl (lv_at hl 0 rfl) ?_
  refine lv_iconst (v := nI 2) hx hb dL_law_164 (by decide) ?_
  refine pw_iadd hx hb dL_law_165 ?_
  refine pw_sld hx hb hX hbl hbA hS (show (5 * kk) + 2 < L by omega) (by omega) dL_law_166 ?_
  refine lv_aload_n hx hb dL_law_167 rfl (lv_at hl 1 rfl) ?_
  refine lv_iload_n hx hb dL_law_168 rfl (lv_at hl 0 rfl) ?_
  refine lv_iconst (v := nI 3) hx hb dL_law_169 (by decide) ?_
  refine pw_iadd hx hb dL_law_170 ?_
  refine pw_sld hx hb hX hbl hbA hS (show (5 * kk) + 3 < L by omega) (by omega) dL_law_171 ?_
  refine lv_if_eq (tgt := 179) hx hb dL_law_172 (by decide) (fun c_1 => ?_) (fun c_1 => ?_)
  · have _h := c_1
    refine lv_iconst (v := nI 0) hx hb dL_law_179 (by decide) ?_
    refine lv_aload_n hx hb dL_law_180 rfl (lv_at hl 1 rfl) ?_
    refine lv_iload_n hx hb dL_law_181 rfl (lv_at hl 0 rfl) ?_
    refine lv_iconst (v := nI 4) hx hb dL_law_182 (by decide) ?_
    refine pw_iadd hx hb dL_law_183 ?_
    refine pw_sld hx hb hX hbl hbA hS (show (5 * kk) + 4 < L by omega) (by omega) dL_law_184 ?_
    obtain ⟨r, md2, rc2, RF2, cr2, T2, Z2, pg2, R2, P2, Hd2, HA2, Lo2, Ol2, AS2, hR2, hC, hM⟩ := sim_put (l := l) (D := D) (cI := cI) (cP := cP) (cR := cR) (h := h) (qr := qr) (qp := qp) (ro := ro) (ao := ao) (po := po) (x := x) (t := t) (z := z) (rf := rf) (rwa := rwa) (pl := pl) (hd := hd) (ha := ha) (lo := lo) (ol := ol) (asa := asa) (AS := AS) (by omega) hro hR (xs ((5 * kk) + 1)) (xs ((5 * kk) + 2)) (nI 0) (xs ((5 * kk) + 4))
    refine pw_cVm (Ts := wsL_law) (own := RL) (C := RX2) (As := [.int (xs ((5 * kk) + 1)), .int (xs ((5 * kk) + 2)), .int (nI 0), .int (xs ((5 * kk) + 4))]) (rest := []) (wc := cW cI cP cR h qr qp ro ao po md rc cr pg) (wr := mW cI x t z rf rwa pl hd ha lo ol asa md T Z RF R P Hd HA Lo Ol AS) ⟨hx, hb, hml, hown, htl⟩ hC (cwV 4 htl gL_law_X2_put rfl rfl rfl (by decide +kernel) ⟨Nat.le_of_ble_eq_true rfl, Nat.le_of_ble_eq_true rfl⟩) hK hP hD hS hA [0, 1, 2, 3, 4, 5, 6, 7, 8, 9, 10, 11, 12] [13, 14, 15, 16, 17, 18, 19, 20, 21, 22, 23] rfl rfl (by decide) (by decide) (by decide) 0 (ci := 2) rfl rfl rfl rfl hl.1 rfl (Nat.le_of_ble_eq_true rfl) dL_law_185 ⟨Nat.le_of_ble_eq_true rfl, Nat.le_of_ble_eq_true rfl⟩ (fun v1 w1 H locs hq hP hD hS => ?_)
    obtain ⟨rfl, rfl⟩ := hq
    refine W.eq (g2 := F0 m 188 ls [.int (r)]) rfl ?_
    refine lv_aload_n hx hb dL_law_188 rfl (lv_at hl 3 rfl) ?_
    refine lv_aload_n hx hb dL_law_189 rfl (lv_at hl 1 rfl) ?_
    refine lv_iload_n hx hb dL_law_190 rfl (lv_at hl 0 rfl) ?_
    refine lv_iconst (v := nI 1) hx hb dL_law_191 (by decide) ?_
    refine pw_iadd hx hb dL_law_192 ?_
    refine pw_sld hx hb hX hbl hbA hS (show (5 * kk) + 1 < L by omega) (by omega) dL_law_193 ?_
    refine lv_aload_n hx hb dL_law_194 rfl (lv_at hl 1 rfl) ?_
    refine lv_iload_n hx hb dL_law_195 rfl (lv_at hl 0 rfl) ?_
    refine lv_iconst (v := nI 2) hx hb dL_law_196 (by decide) ?_
    refine pw_iadd hx hb dL_law_197 ?_
    refine pw_sld hx hb hX hbl hbA hS (show (5 * kk) + 2 < L by omega) (by omega) dL_law_198 ?_
    refine lv_aload_n hx hb dL_law_199 rfl (lv_at hl 1 rfl) ?_
    refine lv_iload_n hx hb dL_law_200 rfl (lv_at hl 0 rfl) ?_
    refine lv_iconst (v := nI 3) hx hb dL_law_201 (by decide) ?_
    refine pw_iadd hx hb dL_law_202 ?_
    refine pw_sld hx hb hX hbl hbA hS (show (5 * kk) + 3 < L by omega) (by omega) dL_law_203 ?_
    refine lv_if_eq (tgt := 211) hx hb dL_law_204 (by decide) (fun c_2 => ?_) (fun c_2 => ?_)
    · have _h := c_2
      refine lv_iconst (v := nI 0) hx hb dL_law_211 (by decide) ?_
      refine lv_aload_n hx hb dL_law_212 rfl (lv_at hl 1 rfl) ?_
      refine lv_iload_n hx hb dL_law_213 rfl (lv_at hl 0 rfl) ?_
      refine lv_iconst (v := nI 4) hx hb dL_law_214 (by decide) ?_
      refine pw_iadd hx hb dL_law_215 ?_
      refine pw_sld hx hb hX hbl hbA hS (show (5 * kk) + 4 < L by omega) (by omega) dL_law_216 ?_
      refine pw_cVm (Ts := wsL_law) (own := RL) (C := RX3) (As := [.int (xs ((5 * kk) + 1)), .int (xs ((5 * kk) + 2)), .int (nI 0), .int (xs ((5 * kk) + 4))]) (rest := [.int (r)]) (wc := mW cI x t z rf rwa pl hd ha lo ol asa md T Z RF R P Hd HA Lo Ol AS) (wr := cW cI cP cR h qr qp ro ao po md2 rc2 cr2 pg2) ⟨hx, hb, hml, hown, htl⟩ hM (cwV 4 htl gL_law_X3_put rfl rfl rfl (by decide +kernel) ⟨Nat.le_of_ble_eq_true rfl, Nat.le_of_ble_eq_true rfl⟩) hK hP hD hS hA [0, 1, 2, 3, 4, 5, 6, 7, 8, 9, 10] [11, 12, 13, 14, 15, 16, 17, 18, 19, 20, 21, 22, 23] rfl rfl (by decide) (by decide) (by decide) 0 (ci := 3) rfl rfl rfl rfl hl.1 rfl (Nat.le_of_ble_eq_true rfl) dL_law_217 ⟨Nat.le_of_ble_eq_true rfl, Nat.le_of_ble_eq_true rfl⟩ (fun v1 w1 H locs hq hP hD hS => ?_)
      obtain ⟨rfl, rfl⟩ := hq
      refine W.eq (g2 := F0 m 220 ls [.int (r), .int (r)]) rfl ?_
      refine lv_icmp_eq (tgt := 1111) hx hb dL_law_220 (by decide) (fun c_3 => ?_) (fun c_3 => ?_)
      · have _h := c_3
        exact cont md2 rc2 RF2 cr2 T2 Z2 pg2 R2 P2 Hd2 HA2 Lo2 Ol2 AS2 hR2 H locs hP hD hS ls hl
      · exact absurd rfl c_3
    · exact absurd c_1 c_2
  · have _h := c_1
    refine lv_iconst (v := nI 1) hx hb dL_law_175 (by decide) ?_
    refine lv_goto (tgt := 180) hx hb dL_law_176 (by decide) ?_
    refine lv_aload_n hx hb dL_law_180 rfl (lv_at hl 1 rfl) ?_
    refine lv_iload_n hx hb dL_law_181 rfl (lv_at hl 0 rfl) ?_
    refine lv_iconst (v := nI 4) hx hb dL_law_182 (by decide) ?_
    refine pw_iadd hx hb dL_law_183 ?_
    refine pw_sld hx hb hX hbl hbA hS (show (5 * kk) + 4 < L by omega) (by omega) dL_law_184 ?_
    obtain ⟨r, md2, rc2, RF2, cr2, T2, Z2, pg2, R2, P2, Hd2, HA2, Lo2, Ol2, AS2, hR2, hC, hM⟩ := sim_put (l := l) (D := D) (cI := cI) (cP := cP) (cR := cR) (h := h) (qr := qr) (qp := qp) (ro := ro) (ao := ao) (po := po) (x := x) (t := t) (z := z) (rf := rf) (rwa := rwa) (pl := pl) (hd := hd) (ha := ha) (lo := lo) (ol := ol) (asa := asa) (AS := AS) (by omega) hro hR (xs ((5 * kk) + 1)) (xs ((5 * kk) + 2)) (nI 1) (xs ((5 * kk) + 4))
    refine pw_cVm (Ts := wsL_law) (own := RL) (C := RX2) (As := [.int (xs ((5 * kk) + 1)), .int (xs ((5 * kk) + 2)), .int (nI 1), .int (xs ((5 * kk) + 4))]) (rest := []) (wc := cW cI cP cR h qr qp ro ao po md rc cr pg) (wr := mW cI x t z rf rwa pl hd ha lo ol asa md T Z RF R P Hd HA Lo Ol AS) ⟨hx, hb, hml, hown, htl⟩ hC (cwV 4 htl gL_law_X2_put rfl rfl rfl (by decide +kernel) ⟨Nat.le_of_ble_eq_true rfl, Nat.le_of_ble_eq_true rfl⟩) hK hP hD hS hA [0, 1, 2, 3, 4, 5, 6, 7, 8, 9, 10, 11, 12] [13, 14, 15, 16, 17, 18, 19, 20, 21, 22, 23] rfl rfl (by decide) (by decide) (by decide) 0 (ci := 2) rfl rfl rfl rfl hl.1 rfl (Nat.le_of_ble_eq_true rfl) dL_law_185 ⟨Nat.le_of_ble_eq_true rfl, Nat.le_of_ble_eq_true rfl⟩ (fun v1 w1 H locs hq hP hD hS => ?_)
    obtain ⟨rfl, rfl⟩ := hq
    refine W.eq (g2 := F0 m 188 ls [.int (r)]) rfl ?_
    refine lv_aload_n hx hb dL_law_188 rfl (lv_at hl 3 rfl) ?_
    refine lv_aload_n hx hb dL_law_189 rfl (lv_at hl 1 rfl) ?_
    refine lv_iload_n hx hb dL_law_190 rfl (lv_at hl 0 rfl) ?_
    refine lv_iconst (v := nI 1) hx hb dL_law_191 (by decide) ?_
    refine pw_iadd hx hb dL_law_192 ?_
    refine pw_sld hx hb hX hbl hbA hS (show (5 * kk) + 1 < L by omega) (by omega) dL_law_193 ?_
    refine lv_aload_n hx hb dL_law_194 rfl (lv_at hl 1 rfl) ?_
    refine lv_iload_n hx hb dL_law_195 rfl (lv_at hl 0 rfl) ?_
    refine lv_iconst (v := nI 2) hx hb dL_law_196 (by decide) ?_
    refine pw_iadd hx hb dL_law_197 ?_
    refine pw_sld hx hb hX hbl hbA hS (show (5 * kk) + 2 < L by omega) (by omega) dL_law_198 ?_
    refine lv_aload_n hx hb dL_law_199 rfl (lv_at hl 1 rfl) ?_
    refine lv_iload_n hx hb dL_law_200 rfl (lv_at hl 0 rfl) ?_
    refine lv_iconst (v := nI 3) hx hb dL_law_201 (by decide) ?_
    refine pw_iadd hx hb dL_law_202 ?_
    refine pw_sld hx hb hX hbl hbA hS (show (5 * kk) + 3 < L by omega) (by omega) dL_law_203 ?_
    refine lv_if_eq (tgt := 211) hx hb dL_law_204 (by decide) (fun c_4 => ?_) (fun c_4 => ?_)
    · exact absurd c_4 c_1
    · have _h := c_4
      refine lv_iconst (v := nI 1) hx hb dL_law_207 (by decide) ?_
      refine lv_goto (tgt := 212) hx hb dL_law_208 (by decide) ?_
      refine lv_aload_n hx hb dL_law_212 rfl (lv_at hl 1 rfl) ?_
      refine lv_iload_n hx hb dL_law_213 rfl (lv_at hl 0 rfl) ?_
      refine lv_iconst (v := nI 4) hx hb dL_law_214 (by decide) ?_
      refine pw_iadd hx hb dL_law_215 ?_
      refine pw_sld hx hb hX hbl hbA hS (show (5 * kk) + 4 < L by omega) (by omega) dL_law_216 ?_
      refine pw_cVm (Ts := wsL_law) (own := RL) (C := RX3) (As := [.int (xs ((5 * kk) + 1)), .int (xs ((5 * kk) + 2)), .int (nI 1), .int (xs ((5 * kk) + 4))]) (rest := [.int (r)]) (wc := mW cI x t z rf rwa pl hd ha lo ol asa md T Z RF R P Hd HA Lo Ol AS) (wr := cW cI cP cR h qr qp ro ao po md2 rc2 cr2 pg2) ⟨hx, hb, hml, hown, htl⟩ hM (cwV 4 htl gL_law_X3_put rfl rfl rfl (by decide +kernel) ⟨Nat.le_of_ble_eq_true rfl, Nat.le_of_ble_eq_true rfl⟩) hK hP hD hS hA [0, 1, 2, 3, 4, 5, 6, 7, 8, 9, 10] [11, 12, 13, 14, 15, 16, 17, 18, 19, 20, 21, 22, 23] rfl rfl (by decide) (by decide) (by decide) 0 (ci := 3) rfl rfl rfl rfl hl.1 rfl (Nat.le_of_ble_eq_true rfl) dL_law_217 ⟨Nat.le_of_ble_eq_true rfl, Nat.le_of_ble_eq_true rfl⟩ (fun v1 w1 H locs hq hP hD hS => ?_)
      obtain ⟨rfl, rfl⟩ := hq
      refine W.eq (g2 := F0 m 220 ls [.int (r), .int (r)]) rfl ?_
      refine lv_icmp_eq (tgt := 1111) hx hb dL_law_220 (by decide) (fun c_5 => ?_) (fun c_5 => ?_)
      · have _h := c_5
        exact cont md2 rc2 RF2 cr2 T2 Z2 pg2 R2 P2 Hd2 HA2 Lo2 Ol2 AS2 hR2 H locs hP hD hS ls hl
      · exact absurd rfl c_5
set_option maxHeartbeats 4000000 in
set_option maxRecDepth 100000 in
theorem lc_end (hL : L ≤ 2560) (C0 : lw_At p s m meth c b L xs) (hK : pw_K D cI cP cR s) (hro : ∀ i j, i < 3 → j < 3 → ro i = ro j → i = j) (h5 : 5 * kk + 5 ≤ L) (hR : Rel kk md rc RF cr T Z pg R P Hd HA Lo Ol) (cont : ∀ (md2 : Nat) (rc2 RF2 : Nat → Int32) (cr2 : Nat → Nat × Nat × (Nat → Int32)) (T2 : Nat → Nat → Int32) (Z2 : Nat → Nat) (pg2 : Nat → PgT) (R2 P2 Hd2 HA2 Lo2 Ol2 AS2 : Nat → Int32), Rel (kk + 1) md2 rc2 RF2 cr2 T2 Z2 pg2 R2 P2 Hd2 HA2 Lo2 Ol2 → ∀ (H : Heap) (locs : List Loc), va_P D vwCl (cW cI cP cR h qr qp ro ao po md2 rc2 cr2 pg2 ++ mW cI x t z rf rwa pl hd ha lo ol asa md2 T2 Z2 RF2 R2 P2 Hd2 HA2 Lo2 Ol2 AS2) H → va_D (fun q : Nat => s.heap.size ≤ q) (cW cI cP cR h qr qp ro ao po md2 rc2 cr2 pg2 ++ mW cI x t z rf rwa pl hd ha lo ol asa md2 T2 Z2 RF2 R2 P2 Hd2 HA2 Lo2 Ol2 AS2) → va_S (fun q : Nat => s.heap.size ≤ q) s.heap H locs → ∀ ls : Array Slot, lv_has ls 4 [(3, .int (nI (5 * kk))), (0, .ref b), (1, .ref h), (2, .ref x)] → W p l e room_1 s m #[Value.ref b] below meth c H locs 24 525 (lw_Z below #[Value.ref b] s) (F0 m 1111 ls [])) : ∀ (H : Heap) (locs : List Loc), va_P D vwCl (cW cI cP cR h qr qp ro ao po md rc cr pg ++ mW cI x t z rf rwa pl hd ha lo ol asa md T Z RF R P Hd HA Lo Ol AS) H → va_D (fun q : Nat => s.heap.size ≤ q) (cW cI cP cR h qr qp ro ao po md rc cr pg ++ mW cI x t z rf rwa pl hd ha lo ol asa md T Z RF R P Hd HA Lo Ol AS) → va_S (fun q : Nat => s.heap.size ≤ q) s.heap H locs → ∀ ls : Array Slot, lv_has ls 4 [(3, .int (nI (5 * kk))), (0, .ref b), (1, .ref h), (2, .ref x)] → W p l e room_1 s m #[Value.ref b] below meth c H locs 24 525 (lw_Z below #[Value.ref b] s) (F0 m 225 ls []) := by
  obtain ⟨hx, hb, hr, hml, hown, hts, hX, hbl, hlocks, hgv⟩ := C0
  have htl : ∀ w ∈ wsL_law, w.before #[Value.ref b] s = true := fun w hw => hts w (wsL_law_in w hw)
  have hA : ∀ q : Nat, s.heap.size ≤ q → (fun q : Nat => s.heap.size ≤ q) q := fun _ h => h
  have hbA : ¬ (fun q : Nat => s.heap.size ≤ q) b := Nat.not_le.mpr hbl
  intro H locs hP hD hS ls hl
  refine lv_aload_n hx hb dL_law_225 rfl (lv_at hl 2 rfl) ?_
  refine lv_aload_n hx hb dL_law_226 rfl (lv_at hl 1 rfl) ?_
  refine lv_iload_n hx hb dL_law_227 rfl (lv_at hl 0 rfl) ?_
  refine lv_iconst (v := nI 1) hx hb dL_law_228 (by decide) ?_
  refine pw_iadd hx hb dL_law_229 ?_
  refine pw_sld hx hb hX hbl hbA hS (show (5 * kk) + 1 < L by omega) (by omega) dL_law_230 ?_
  refine lv_aload_n hx hb dL_law_231 rfl (lv_at hl 1 rfl) ?_
  refine lv_iload_n hx hb dL_law_232 rfl (lv_at hl 0 rfl) ?_
  refine lv_iconst (v := nI 2) hx hb dL_law_233 (by decide) ?_
  refine pw_iadd hx hb dL_law_234 ?_
  refine pw_sld hx hb hX hbl hbA hS (show (5 * kk) + 2 < L by omega) (by omega) dL_law_235 ?_
  refine lv_if_eq (tgt := 243) hx hb dL_law_236 (by decide) (fun c_1 => ?_) (fun c_1 => ?_)
  · have _h := c_1
    refine lv_iconst (v := nI 0) hx hb dL_law_243 (by decide) ?_
    refine lv_aload_n hx hb dL_law_244 rfl (lv_at hl 1 rfl) ?_
    refine lv_iload_n hx hb dL_law_245 rfl (lv_at hl 0 rfl) ?_
    refine lv_iconst (v := nI 3) hx hb dL_law_246 (by decide) ?_
    refine pw_iadd hx hb dL_law_247 ?_
    refine pw_sld hx hb hX hbl hbA hS (show (5 * kk) + 3 < L by omega) (by omega) dL_law_248 ?_
    obtain ⟨r, md2, rc2, RF2, cr2, T2, Z2, pg2, R2, P2, Hd2, HA2, Lo2, Ol2, AS2, hR2, hC, hM⟩ := sim_end (l := l) (D := D) (cI := cI) (cP := cP) (cR := cR) (h := h) (qr := qr) (qp := qp) (ro := ro) (ao := ao) (po := po) (x := x) (t := t) (z := z) (rf := rf) (rwa := rwa) (pl := pl) (hd := hd) (ha := ha) (lo := lo) (ol := ol) (asa := asa) (AS := AS) (by omega) hro hR (xs ((5 * kk) + 1)) (nI 0) (xs ((5 * kk) + 3))
    refine pw_cVm (Ts := wsL_law) (own := RL) (C := RX2) (As := [.int (xs ((5 * kk) + 1)), .int (nI 0), .int (xs ((5 * kk) + 3))]) (rest := []) (wc := cW cI cP cR h qr qp ro ao po md rc cr pg) (wr := mW cI x t z rf rwa pl hd ha lo ol asa md T Z RF R P Hd HA Lo Ol AS) ⟨hx, hb, hml, hown, htl⟩ hC (cwV 3 htl gL_law_X2_end rfl rfl rfl (by decide +kernel) ⟨Nat.le_of_ble_eq_true rfl, Nat.le_of_ble_eq_true rfl⟩) hK hP hD hS hA [0, 1, 2, 3, 4, 5, 6, 7, 8, 9, 10, 11, 12] [13, 14, 15, 16, 17, 18, 19, 20, 21, 22, 23] rfl rfl (by decide) (by decide) (by decide) 0 (ci := 2) rfl rfl rfl rfl hl.1 rfl (Nat.le_of_ble_eq_true rfl) dL_law_249 ⟨Nat.le_of_ble_eq_true rfl, Nat.le_of_ble_eq_true rfl⟩ (fun v1 w1 H locs hq hP hD hS => ?_)
    obtain ⟨rfl, rfl⟩ := hq
    refine W.eq (g2 := F0 m 252 ls [.int (r)]) rfl ?_
    refine lv_aload_n hx hb dL_law_252 rfl (lv_at hl 3 rfl) ?_
    refine lv_aload_n hx hb dL_law_253 rfl (lv_at hl 1 rfl) ?_
    refine lv_iload_n hx hb dL_law_254 rfl (lv_at hl 0 rfl) ?_
    refine lv_iconst (v := nI 1) hx hb dL_law_255 (by decide) ?_
    refine pw_iadd hx hb dL_law_256 ?_
    refine pw_sld hx hb hX hbl hbA hS (show (5 * kk) + 1 < L by omega) (by omega) dL_law_257 ?_
    refine lv_aload_n hx hb dL_law_258 rfl (lv_at hl 1 rfl) ?_
    refine lv_iload_n hx hb dL_law_259 rfl (lv_at hl 0 rfl) ?_
    refine lv_iconst (v := nI 2) hx hb dL_law_260 (by decide) ?_
    refine pw_iadd hx hb dL_law_261 ?_
    refine pw_sld hx hb hX hbl hbA hS (show (5 * kk) + 2 < L by omega) (by omega) dL_law_262 ?_
    refine lv_if_eq (tgt := 270) hx hb dL_law_263 (by decide) (fun c_2 => ?_) (fun c_2 => ?_)
    · have _h := c_2
      refine lv_iconst (v := nI 0) hx hb dL_law_270 (by decide) ?_
      refine lv_aload_n hx hb dL_law_271 rfl (lv_at hl 1 rfl) ?_
      refine lv_iload_n hx hb dL_law_272 rfl (lv_at hl 0 rfl) ?_
      refine lv_iconst (v := nI 3) hx hb dL_law_273 (by decide) ?_
      refine pw_iadd hx hb dL_law_274 ?_
      refine pw_sld hx hb hX hbl hbA hS (show (5 * kk) + 3 < L by omega) (by omega) dL_law_275 ?_
      refine pw_cVm (Ts := wsL_law) (own := RL) (C := RX3) (As := [.int (xs ((5 * kk) + 1)), .int (nI 0), .int (xs ((5 * kk) + 3))]) (rest := [.int (r)]) (wc := mW cI x t z rf rwa pl hd ha lo ol asa md T Z RF R P Hd HA Lo Ol AS) (wr := cW cI cP cR h qr qp ro ao po md2 rc2 cr2 pg2) ⟨hx, hb, hml, hown, htl⟩ hM (cwV 3 htl gL_law_X3_end rfl rfl rfl (by decide +kernel) ⟨Nat.le_of_ble_eq_true rfl, Nat.le_of_ble_eq_true rfl⟩) hK hP hD hS hA [0, 1, 2, 3, 4, 5, 6, 7, 8, 9, 10] [11, 12, 13, 14, 15, 16, 17, 18, 19, 20, 21, 22, 23] rfl rfl (by decide) (by decide) (by decide) 0 (ci := 3) rfl rfl rfl rfl hl.1 rfl (Nat.le_of_ble_eq_true rfl) dL_law_276 ⟨Nat.le_of_ble_eq_true rfl, Nat.le_of_ble_eq_true rfl⟩ (fun v1 w1 H locs hq hP hD hS => ?_)
      obtain ⟨rfl, rfl⟩ := hq
      refine W.eq (g2 := F0 m 279 ls [.int (r), .int (r)]) rfl ?_
      refine lv_icmp_eq (tgt := 1111) hx hb dL_law_279 (by decide) (fun c_3 => ?_) (fun c_3 => ?_)
      · have _h := c_3
        exact cont md2 rc2 RF2 cr2 T2 Z2 pg2 R2 P2 Hd2 HA2 Lo2 Ol2 AS2 hR2 H locs hP hD hS ls hl
      · exact absurd rfl c_3
    · exact absurd c_1 c_2
  · have _h := c_1
    refine lv_iconst (v := nI 1) hx hb dL_law_239 (by decide) ?_
    refine lv_goto (tgt := 244) hx hb dL_law_240 (by decide) ?_
    refine lv_aload_n hx hb dL_law_244 rfl (lv_at hl 1 rfl) ?_
    refine lv_iload_n hx hb dL_law_245 rfl (lv_at hl 0 rfl) ?_
    refine lv_iconst (v := nI 3) hx hb dL_law_246 (by decide) ?_
    refine pw_iadd hx hb dL_law_247 ?_
    refine pw_sld hx hb hX hbl hbA hS (show (5 * kk) + 3 < L by omega) (by omega) dL_law_248 ?_
    obtain ⟨r, md2, rc2, RF2, cr2, T2, Z2, pg2, R2, P2, Hd2, HA2, Lo2, Ol2, AS2, hR2, hC, hM⟩ := sim_end (l := l) (D := D) (cI := cI) (cP := cP) (cR := cR) (h := h) (qr := qr) (qp := qp) (ro := ro) (ao := ao) (po := po) (x := x) (t := t) (z := z) (rf := rf) (rwa := rwa) (pl := pl) (hd := hd) (ha := ha) (lo := lo) (ol := ol) (asa := asa) (AS := AS) (by omega) hro hR (xs ((5 * kk) + 1)) (nI 1) (xs ((5 * kk) + 3))
    refine pw_cVm (Ts := wsL_law) (own := RL) (C := RX2) (As := [.int (xs ((5 * kk) + 1)), .int (nI 1), .int (xs ((5 * kk) + 3))]) (rest := []) (wc := cW cI cP cR h qr qp ro ao po md rc cr pg) (wr := mW cI x t z rf rwa pl hd ha lo ol asa md T Z RF R P Hd HA Lo Ol AS) ⟨hx, hb, hml, hown, htl⟩ hC (cwV 3 htl gL_law_X2_end rfl rfl rfl (by decide +kernel) ⟨Nat.le_of_ble_eq_true rfl, Nat.le_of_ble_eq_true rfl⟩) hK hP hD hS hA [0, 1, 2, 3, 4, 5, 6, 7, 8, 9, 10, 11, 12] [13, 14, 15, 16, 17, 18, 19, 20, 21, 22, 23] rfl rfl (by decide) (by decide) (by decide) 0 (ci := 2) rfl rfl rfl rfl hl.1 rfl (Nat.le_of_ble_eq_true rfl) dL_law_249 ⟨Nat.le_of_ble_eq_true rfl, Nat.le_of_ble_eq_true rfl⟩ (fun v1 w1 H locs hq hP hD hS => ?_)
    obtain ⟨rfl, rfl⟩ := hq
    refine W.eq (g2 := F0 m 252 ls [.int (r)]) rfl ?_
    refine lv_aload_n hx hb dL_law_252 rfl (lv_at hl 3 rfl) ?_
    refine lv_aload_n hx hb dL_law_253 rfl (lv_at hl 1 rfl) ?_
    refine lv_iload_n hx hb dL_law_254 rfl (lv_at hl 0 rfl) ?_
    refine lv_iconst (v := nI 1) hx hb dL_law_255 (by decide) ?_
    refine pw_iadd hx hb dL_law_256 ?_
    refine pw_sld hx hb hX hbl hbA hS (show (5 * kk) + 1 < L by omega) (by omega) dL_law_257 ?_
    refine lv_aload_n hx hb dL_law_258 rfl (lv_at hl 1 rfl) ?_
    refine lv_iload_n hx hb dL_law_259 rfl (lv_at hl 0 rfl) ?_
    refine lv_iconst (v := nI 2) hx hb dL_law_260 (by decide) ?_
    refine pw_iadd hx hb dL_law_261 ?_
    refine pw_sld hx hb hX hbl hbA hS (show (5 * kk) + 2 < L by omega) (by omega) dL_law_262 ?_
    refine lv_if_eq (tgt := 270) hx hb dL_law_263 (by decide) (fun c_4 => ?_) (fun c_4 => ?_)
    · exact absurd c_4 c_1
    · have _h := c_4
      refine lv_iconst (v := nI 1) hx hb dL_law_266 (by decide) ?_
      refine lv_goto (tgt := 271) hx hb dL_law_267 (by decide) ?_
      refine lv_aload_n hx hb dL_law_271 rfl (lv_at hl 1 rfl) ?_
      refine lv_iload_n hx hb dL_law_272 rfl (lv_at hl 0 rfl) ?_
      refine lv_iconst (v := nI 3) hx hb dL_law_273 (by decide) ?_
      refine pw_iadd hx hb dL_law_274 ?_
      refine pw_sld hx hb hX hbl hbA hS (show (5 * kk) + 3 < L by omega) (by omega) dL_law_275 ?_
      refine pw_cVm (Ts := wsL_law) (own := RL) (C := RX3) (As := [.int (xs ((5 * kk) + 1)), .int (nI 1), .int (xs ((5 * kk) + 3))]) (rest := [.int (r)]) (wc := mW cI x t z rf rwa pl hd ha lo ol asa md T Z RF R P Hd HA Lo Ol AS) (wr := cW cI cP cR h qr qp ro ao po md2 rc2 cr2 pg2) ⟨hx, hb, hml, hown, htl⟩ hM (cwV 3 htl gL_law_X3_end rfl rfl rfl (by decide +kernel) ⟨Nat.le_of_ble_eq_true rfl, Nat.le_of_ble_eq_true rfl⟩) hK hP hD hS hA [0, 1, 2, 3, 4, 5, 6, 7, 8, 9, 10] [11, 12, 13, 14, 15, 16, 17, 18, 19, 20, 21, 22, 23] rfl rfl (by decide) (by decide) (by decide) 0 (ci := 3) rfl rfl rfl rfl hl.1 rfl (Nat.le_of_ble_eq_true rfl) dL_law_276 ⟨Nat.le_of_ble_eq_true rfl, Nat.le_of_ble_eq_true rfl⟩ (fun v1 w1 H locs hq hP hD hS => ?_)
      obtain ⟨rfl, rfl⟩ := hq
      refine W.eq (g2 := F0 m 279 ls [.int (r), .int (r)]) rfl ?_
      refine lv_icmp_eq (tgt := 1111) hx hb dL_law_279 (by decide) (fun c_5 => ?_) (fun c_5 => ?_)
      · have _h := c_5
        exact cont md2 rc2 RF2 cr2 T2 Z2 pg2 R2 P2 Hd2 HA2 Lo2 Ol2 AS2 hR2 H locs hP hD hS ls hl
      · exact absurd rfl c_5
set_option maxHeartbeats 4000000 in
set_option maxRecDepth 100000 in
theorem lc_take (hL : L ≤ 2560) (C0 : lw_At p s m meth c b L xs) (hK : pw_K D cI cP cR s) (hro : ∀ i j, i < 3 → j < 3 → ro i = ro j → i = j) (h5 : 5 * kk + 5 ≤ L) (hR : Rel kk md rc RF cr T Z pg R P Hd HA Lo Ol) (cont : ∀ (md2 : Nat) (rc2 RF2 : Nat → Int32) (cr2 : Nat → Nat × Nat × (Nat → Int32)) (T2 : Nat → Nat → Int32) (Z2 : Nat → Nat) (pg2 : Nat → PgT) (R2 P2 Hd2 HA2 Lo2 Ol2 AS2 : Nat → Int32), Rel (kk + 1) md2 rc2 RF2 cr2 T2 Z2 pg2 R2 P2 Hd2 HA2 Lo2 Ol2 → ∀ (H : Heap) (locs : List Loc), va_P D vwCl (cW cI cP cR h qr qp ro ao po md2 rc2 cr2 pg2 ++ mW cI x t z rf rwa pl hd ha lo ol asa md2 T2 Z2 RF2 R2 P2 Hd2 HA2 Lo2 Ol2 AS2) H → va_D (fun q : Nat => s.heap.size ≤ q) (cW cI cP cR h qr qp ro ao po md2 rc2 cr2 pg2 ++ mW cI x t z rf rwa pl hd ha lo ol asa md2 T2 Z2 RF2 R2 P2 Hd2 HA2 Lo2 Ol2 AS2) → va_S (fun q : Nat => s.heap.size ≤ q) s.heap H locs → ∀ ls : Array Slot, lv_has ls 4 [(3, .int (nI (5 * kk))), (0, .ref b), (1, .ref h), (2, .ref x)] → W p l e room_1 s m #[Value.ref b] below meth c H locs 24 525 (lw_Z below #[Value.ref b] s) (F0 m 1111 ls [])) : ∀ (H : Heap) (locs : List Loc), va_P D vwCl (cW cI cP cR h qr qp ro ao po md rc cr pg ++ mW cI x t z rf rwa pl hd ha lo ol asa md T Z RF R P Hd HA Lo Ol AS) H → va_D (fun q : Nat => s.heap.size ≤ q) (cW cI cP cR h qr qp ro ao po md rc cr pg ++ mW cI x t z rf rwa pl hd ha lo ol asa md T Z RF R P Hd HA Lo Ol AS) → va_S (fun q : Nat => s.heap.size ≤ q) s.heap H locs → ∀ ls : Array Slot, lv_has ls 4 [(3, .int (nI (5 * kk))), (0, .ref b), (1, .ref h), (2, .ref x)] → W p l e room_1 s m #[Value.ref b] below meth c H locs 24 525 (lw_Z below #[Value.ref b] s) (F0 m 284 ls []) := by
  obtain ⟨hx, hb, hr, hml, hown, hts, hX, hbl, hlocks, hgv⟩ := C0
  have htl : ∀ w ∈ wsL_law, w.before #[Value.ref b] s = true := fun w hw => hts w (wsL_law_in w hw)
  have hA : ∀ q : Nat, s.heap.size ≤ q → (fun q : Nat => s.heap.size ≤ q) q := fun _ h => h
  have hbA : ¬ (fun q : Nat => s.heap.size ≤ q) b := Nat.not_le.mpr hbl
  intro H locs hP hD hS ls hl
  refine lv_aload_n hx hb dL_law_284 rfl (lv_at hl 2 rfl) ?_
  refine lv_aload_n hx hb dL_law_285 rfl (lv_at hl 1 rfl) ?_
  refine lv_iload_n hx hb dL_law_286 rfl (lv_at hl 0 rfl) ?_
  refine lv_iconst (v := nI 1) hx hb dL_law_287 (by decide) ?_
  refine pw_iadd hx hb dL_law_288 ?_
  refine pw_sld hx hb hX hbl hbA hS (show (5 * kk) + 1 < L by omega) (by omega) dL_law_289 ?_
  refine lv_aload_n hx hb dL_law_290 rfl (lv_at hl 1 rfl) ?_
  refine lv_iload_n hx hb dL_law_291 rfl (lv_at hl 0 rfl) ?_
  refine lv_iconst (v := nI 2) hx hb dL_law_292 (by decide) ?_
  refine pw_iadd hx hb dL_law_293 ?_
  refine pw_sld hx hb hX hbl hbA hS (show (5 * kk) + 2 < L by omega) (by omega) dL_law_294 ?_
  refine lv_if_eq (tgt := 302) hx hb dL_law_295 (by decide) (fun c_1 => ?_) (fun c_1 => ?_)
  · have _h := c_1
    refine lv_iconst (v := nI 0) hx hb dL_law_302 (by decide) ?_
    refine lv_aload_n hx hb dL_law_303 rfl (lv_at hl 1 rfl) ?_
    refine lv_iload_n hx hb dL_law_304 rfl (lv_at hl 0 rfl) ?_
    refine lv_iconst (v := nI 3) hx hb dL_law_305 (by decide) ?_
    refine pw_iadd hx hb dL_law_306 ?_
    refine pw_sld hx hb hX hbl hbA hS (show (5 * kk) + 3 < L by omega) (by omega) dL_law_307 ?_
    obtain ⟨r, md2, rc2, RF2, cr2, T2, Z2, pg2, R2, P2, Hd2, HA2, Lo2, Ol2, AS2, hR2, hC, hM⟩ := sim_take (l := l) (D := D) (cI := cI) (cP := cP) (cR := cR) (h := h) (qr := qr) (qp := qp) (ro := ro) (ao := ao) (po := po) (x := x) (t := t) (z := z) (rf := rf) (rwa := rwa) (pl := pl) (hd := hd) (ha := ha) (lo := lo) (ol := ol) (asa := asa) (AS := AS) (by omega) hro hR (xs ((5 * kk) + 1)) (nI 0) (xs ((5 * kk) + 3))
    refine pw_cVm (Ts := wsL_law) (own := RL) (C := RX2) (As := [.int (xs ((5 * kk) + 1)), .int (nI 0), .int (xs ((5 * kk) + 3))]) (rest := []) (wc := cW cI cP cR h qr qp ro ao po md rc cr pg) (wr := mW cI x t z rf rwa pl hd ha lo ol asa md T Z RF R P Hd HA Lo Ol AS) ⟨hx, hb, hml, hown, htl⟩ hC (cwV 3 htl gL_law_X2_take rfl rfl rfl (by decide +kernel) ⟨Nat.le_of_ble_eq_true rfl, Nat.le_of_ble_eq_true rfl⟩) hK hP hD hS hA [0, 1, 2, 3, 4, 5, 6, 7, 8, 9, 10, 11, 12] [13, 14, 15, 16, 17, 18, 19, 20, 21, 22, 23] rfl rfl (by decide) (by decide) (by decide) 0 (ci := 2) rfl rfl rfl rfl hl.1 rfl (Nat.le_of_ble_eq_true rfl) dL_law_308 ⟨Nat.le_of_ble_eq_true rfl, Nat.le_of_ble_eq_true rfl⟩ (fun v1 w1 H locs hq hP hD hS => ?_)
    obtain ⟨rfl, rfl⟩ := hq
    refine W.eq (g2 := F0 m 311 ls [.int (r)]) rfl ?_
    refine lv_aload_n hx hb dL_law_311 rfl (lv_at hl 3 rfl) ?_
    refine lv_aload_n hx hb dL_law_312 rfl (lv_at hl 1 rfl) ?_
    refine lv_iload_n hx hb dL_law_313 rfl (lv_at hl 0 rfl) ?_
    refine lv_iconst (v := nI 1) hx hb dL_law_314 (by decide) ?_
    refine pw_iadd hx hb dL_law_315 ?_
    refine pw_sld hx hb hX hbl hbA hS (show (5 * kk) + 1 < L by omega) (by omega) dL_law_316 ?_
    refine lv_aload_n hx hb dL_law_317 rfl (lv_at hl 1 rfl) ?_
    refine lv_iload_n hx hb dL_law_318 rfl (lv_at hl 0 rfl) ?_
    refine lv_iconst (v := nI 2) hx hb dL_law_319 (by decide) ?_
    refine pw_iadd hx hb dL_law_320 ?_
    refine pw_sld hx hb hX hbl hbA hS (show (5 * kk) + 2 < L by omega) (by omega) dL_law_321 ?_
    refine lv_if_eq (tgt := 329) hx hb dL_law_322 (by decide) (fun c_2 => ?_) (fun c_2 => ?_)
    · have _h := c_2
      refine lv_iconst (v := nI 0) hx hb dL_law_329 (by decide) ?_
      refine lv_aload_n hx hb dL_law_330 rfl (lv_at hl 1 rfl) ?_
      refine lv_iload_n hx hb dL_law_331 rfl (lv_at hl 0 rfl) ?_
      refine lv_iconst (v := nI 3) hx hb dL_law_332 (by decide) ?_
      refine pw_iadd hx hb dL_law_333 ?_
      refine pw_sld hx hb hX hbl hbA hS (show (5 * kk) + 3 < L by omega) (by omega) dL_law_334 ?_
      refine pw_cVm (Ts := wsL_law) (own := RL) (C := RX3) (As := [.int (xs ((5 * kk) + 1)), .int (nI 0), .int (xs ((5 * kk) + 3))]) (rest := [.int (r)]) (wc := mW cI x t z rf rwa pl hd ha lo ol asa md T Z RF R P Hd HA Lo Ol AS) (wr := cW cI cP cR h qr qp ro ao po md2 rc2 cr2 pg2) ⟨hx, hb, hml, hown, htl⟩ hM (cwV 3 htl gL_law_X3_take rfl rfl rfl (by decide +kernel) ⟨Nat.le_of_ble_eq_true rfl, Nat.le_of_ble_eq_true rfl⟩) hK hP hD hS hA [0, 1, 2, 3, 4, 5, 6, 7, 8, 9, 10] [11, 12, 13, 14, 15, 16, 17, 18, 19, 20, 21, 22, 23] rfl rfl (by decide) (by decide) (by decide) 0 (ci := 3) rfl rfl rfl rfl hl.1 rfl (Nat.le_of_ble_eq_true rfl) dL_law_335 ⟨Nat.le_of_ble_eq_true rfl, Nat.le_of_ble_eq_true rfl⟩ (fun v1 w1 H locs hq hP hD hS => ?_)
      obtain ⟨rfl, rfl⟩ := hq
      refine W.eq (g2 := F0 m 338 ls [.int (r), .int (r)]) rfl ?_
      refine lv_icmp_eq (tgt := 1111) hx hb dL_law_338 (by decide) (fun c_3 => ?_) (fun c_3 => ?_)
      · have _h := c_3
        exact cont md2 rc2 RF2 cr2 T2 Z2 pg2 R2 P2 Hd2 HA2 Lo2 Ol2 AS2 hR2 H locs hP hD hS ls hl
      · exact absurd rfl c_3
    · exact absurd c_1 c_2
  · have _h := c_1
    refine lv_iconst (v := nI 1) hx hb dL_law_298 (by decide) ?_
    refine lv_goto (tgt := 303) hx hb dL_law_299 (by decide) ?_
    refine lv_aload_n hx hb dL_law_303 rfl (lv_at hl 1 rfl) ?_
    refine lv_iload_n hx hb dL_law_304 rfl (lv_at hl 0 rfl) ?_
    refine lv_iconst (v := nI 3) hx hb dL_law_305 (by decide) ?_
    refine pw_iadd hx hb dL_law_306 ?_
    refine pw_sld hx hb hX hbl hbA hS (show (5 * kk) + 3 < L by omega) (by omega) dL_law_307 ?_
    obtain ⟨r, md2, rc2, RF2, cr2, T2, Z2, pg2, R2, P2, Hd2, HA2, Lo2, Ol2, AS2, hR2, hC, hM⟩ := sim_take (l := l) (D := D) (cI := cI) (cP := cP) (cR := cR) (h := h) (qr := qr) (qp := qp) (ro := ro) (ao := ao) (po := po) (x := x) (t := t) (z := z) (rf := rf) (rwa := rwa) (pl := pl) (hd := hd) (ha := ha) (lo := lo) (ol := ol) (asa := asa) (AS := AS) (by omega) hro hR (xs ((5 * kk) + 1)) (nI 1) (xs ((5 * kk) + 3))
    refine pw_cVm (Ts := wsL_law) (own := RL) (C := RX2) (As := [.int (xs ((5 * kk) + 1)), .int (nI 1), .int (xs ((5 * kk) + 3))]) (rest := []) (wc := cW cI cP cR h qr qp ro ao po md rc cr pg) (wr := mW cI x t z rf rwa pl hd ha lo ol asa md T Z RF R P Hd HA Lo Ol AS) ⟨hx, hb, hml, hown, htl⟩ hC (cwV 3 htl gL_law_X2_take rfl rfl rfl (by decide +kernel) ⟨Nat.le_of_ble_eq_true rfl, Nat.le_of_ble_eq_true rfl⟩) hK hP hD hS hA [0, 1, 2, 3, 4, 5, 6, 7, 8, 9, 10, 11, 12] [13, 14, 15, 16, 17, 18, 19, 20, 21, 22, 23] rfl rfl (by decide) (by decide) (by decide) 0 (ci := 2) rfl rfl rfl rfl hl.1 rfl (Nat.le_of_ble_eq_true rfl) dL_law_308 ⟨Nat.le_of_ble_eq_true rfl, Nat.le_of_ble_eq_true rfl⟩ (fun v1 w1 H locs hq hP hD hS => ?_)
    obtain ⟨rfl, rfl⟩ := hq
    refine W.eq (g2 := F0 m 311 ls [.int (r)]) rfl ?_
    refine lv_aload_n hx hb dL_law_311 rfl (lv_at hl 3 rfl) ?_
    refine lv_aload_n hx hb dL_law_312 rfl (lv_at hl 1 rfl) ?_
    refine lv_iload_n hx hb dL_law_313 rfl (lv_at hl 0 rfl) ?_
    refine lv_iconst (v := nI 1) hx hb dL_law_314 (by decide) ?_
    refine pw_iadd hx hb dL_law_315 ?_
    refine pw_sld hx hb hX hbl hbA hS (show (5 * kk) + 1 < L by omega) (by omega) dL_law_316 ?_
    refine lv_aload_n hx hb dL_law_317 rfl (lv_at hl 1 rfl) ?_
    refine lv_iload_n hx hb dL_law_318 rfl (lv_at hl 0 rfl) ?_
    refine lv_iconst (v := nI 2) hx hb dL_law_319 (by decide) ?_
    refine pw_iadd hx hb dL_law_320 ?_
    refine pw_sld hx hb hX hbl hbA hS (show (5 * kk) + 2 < L by omega) (by omega) dL_law_321 ?_
    refine lv_if_eq (tgt := 329) hx hb dL_law_322 (by decide) (fun c_4 => ?_) (fun c_4 => ?_)
    · exact absurd c_4 c_1
    · have _h := c_4
      refine lv_iconst (v := nI 1) hx hb dL_law_325 (by decide) ?_
      refine lv_goto (tgt := 330) hx hb dL_law_326 (by decide) ?_
      refine lv_aload_n hx hb dL_law_330 rfl (lv_at hl 1 rfl) ?_
      refine lv_iload_n hx hb dL_law_331 rfl (lv_at hl 0 rfl) ?_
      refine lv_iconst (v := nI 3) hx hb dL_law_332 (by decide) ?_
      refine pw_iadd hx hb dL_law_333 ?_
      refine pw_sld hx hb hX hbl hbA hS (show (5 * kk) + 3 < L by omega) (by omega) dL_law_334 ?_
      refine pw_cVm (Ts := wsL_law) (own := RL) (C := RX3) (As := [.int (xs ((5 * kk) + 1)), .int (nI 1), .int (xs ((5 * kk) + 3))]) (rest := [.int (r)]) (wc := mW cI x t z rf rwa pl hd ha lo ol asa md T Z RF R P Hd HA Lo Ol AS) (wr := cW cI cP cR h qr qp ro ao po md2 rc2 cr2 pg2) ⟨hx, hb, hml, hown, htl⟩ hM (cwV 3 htl gL_law_X3_take rfl rfl rfl (by decide +kernel) ⟨Nat.le_of_ble_eq_true rfl, Nat.le_of_ble_eq_true rfl⟩) hK hP hD hS hA [0, 1, 2, 3, 4, 5, 6, 7, 8, 9, 10] [11, 12, 13, 14, 15, 16, 17, 18, 19, 20, 21, 22, 23] rfl rfl (by decide) (by decide) (by decide) 0 (ci := 3) rfl rfl rfl rfl hl.1 rfl (Nat.le_of_ble_eq_true rfl) dL_law_335 ⟨Nat.le_of_ble_eq_true rfl, Nat.le_of_ble_eq_true rfl⟩ (fun v1 w1 H locs hq hP hD hS => ?_)
      obtain ⟨rfl, rfl⟩ := hq
      refine W.eq (g2 := F0 m 338 ls [.int (r), .int (r)]) rfl ?_
      refine lv_icmp_eq (tgt := 1111) hx hb dL_law_338 (by decide) (fun c_5 => ?_) (fun c_5 => ?_)
      · have _h := c_5
        exact cont md2 rc2 RF2 cr2 T2 Z2 pg2 R2 P2 Hd2 HA2 Lo2 Ol2 AS2 hR2 H locs hP hD hS ls hl
      · exact absurd rfl c_5
set_option maxHeartbeats 4000000 in
set_option maxRecDepth 100000 in
theorem lc_at (hL : L ≤ 2560) (C0 : lw_At p s m meth c b L xs) (hK : pw_K D cI cP cR s) (hro : ∀ i j, i < 3 → j < 3 → ro i = ro j → i = j) (h5 : 5 * kk + 5 ≤ L) (hR : Rel kk md rc RF cr T Z pg R P Hd HA Lo Ol) (cont : ∀ (md2 : Nat) (rc2 RF2 : Nat → Int32) (cr2 : Nat → Nat × Nat × (Nat → Int32)) (T2 : Nat → Nat → Int32) (Z2 : Nat → Nat) (pg2 : Nat → PgT) (R2 P2 Hd2 HA2 Lo2 Ol2 AS2 : Nat → Int32), Rel (kk + 1) md2 rc2 RF2 cr2 T2 Z2 pg2 R2 P2 Hd2 HA2 Lo2 Ol2 → ∀ (H : Heap) (locs : List Loc), va_P D vwCl (cW cI cP cR h qr qp ro ao po md2 rc2 cr2 pg2 ++ mW cI x t z rf rwa pl hd ha lo ol asa md2 T2 Z2 RF2 R2 P2 Hd2 HA2 Lo2 Ol2 AS2) H → va_D (fun q : Nat => s.heap.size ≤ q) (cW cI cP cR h qr qp ro ao po md2 rc2 cr2 pg2 ++ mW cI x t z rf rwa pl hd ha lo ol asa md2 T2 Z2 RF2 R2 P2 Hd2 HA2 Lo2 Ol2 AS2) → va_S (fun q : Nat => s.heap.size ≤ q) s.heap H locs → ∀ ls : Array Slot, lv_has ls 4 [(3, .int (nI (5 * kk))), (0, .ref b), (1, .ref h), (2, .ref x)] → W p l e room_1 s m #[Value.ref b] below meth c H locs 24 525 (lw_Z below #[Value.ref b] s) (F0 m 1111 ls [])) : ∀ (H : Heap) (locs : List Loc), va_P D vwCl (cW cI cP cR h qr qp ro ao po md rc cr pg ++ mW cI x t z rf rwa pl hd ha lo ol asa md T Z RF R P Hd HA Lo Ol AS) H → va_D (fun q : Nat => s.heap.size ≤ q) (cW cI cP cR h qr qp ro ao po md rc cr pg ++ mW cI x t z rf rwa pl hd ha lo ol asa md T Z RF R P Hd HA Lo Ol AS) → va_S (fun q : Nat => s.heap.size ≤ q) s.heap H locs → ∀ ls : Array Slot, lv_has ls 4 [(3, .int (nI (5 * kk))), (0, .ref b), (1, .ref h), (2, .ref x)] → W p l e room_1 s m #[Value.ref b] below meth c H locs 24 525 (lw_Z below #[Value.ref b] s) (F0 m 343 ls []) := by
  obtain ⟨hx, hb, hr, hml, hown, hts, hX, hbl, hlocks, hgv⟩ := C0
  have htl : ∀ w ∈ wsL_law, w.before #[Value.ref b] s = true := fun w hw => hts w (wsL_law_in w hw)
  have hA : ∀ q : Nat, s.heap.size ≤ q → (fun q : Nat => s.heap.size ≤ q) q := fun _ h => h
  have hbA : ¬ (fun q : Nat => s.heap.size ≤ q) b := Nat.not_le.mpr hbl
  intro H locs hP hD hS ls hl
  refine lv_aload_n hx hb dL_law_343 rfl (lv_at hl 2 rfl) ?_
  refine lv_aload_n hx hb dL_law_344 rfl (lv_at hl 1 rfl) ?_
  refine lv_iload_n hx hb dL_law_345 rfl (lv_at hl 0 rfl) ?_
  refine lv_iconst (v := nI 1) hx hb dL_law_346 (by decide) ?_
  refine pw_iadd hx hb dL_law_347 ?_
  refine pw_sld hx hb hX hbl hbA hS (show (5 * kk) + 1 < L by omega) (by omega) dL_law_348 ?_
  refine lv_aload_n hx hb dL_law_349 rfl (lv_at hl 1 rfl) ?_
  refine lv_iload_n hx hb dL_law_350 rfl (lv_at hl 0 rfl) ?_
  refine lv_iconst (v := nI 2) hx hb dL_law_351 (by decide) ?_
  refine pw_iadd hx hb dL_law_352 ?_
  refine pw_sld hx hb hX hbl hbA hS (show (5 * kk) + 2 < L by omega) (by omega) dL_law_353 ?_
  obtain ⟨r, md2, rc2, RF2, cr2, T2, Z2, pg2, R2, P2, Hd2, HA2, Lo2, Ol2, AS2, hR2, hC, hM⟩ := sim_at (l := l) (D := D) (cI := cI) (cP := cP) (cR := cR) (h := h) (qr := qr) (qp := qp) (ro := ro) (ao := ao) (po := po) (x := x) (t := t) (z := z) (rf := rf) (rwa := rwa) (pl := pl) (hd := hd) (ha := ha) (lo := lo) (ol := ol) (asa := asa) (AS := AS) (by omega) hro hR (xs ((5 * kk) + 1)) (xs ((5 * kk) + 2))
  refine pw_cVm (Ts := wsL_law) (own := RL) (C := RX2) (As := [.int (xs ((5 * kk) + 1)), .int (xs ((5 * kk) + 2))]) (rest := []) (wc := cW cI cP cR h qr qp ro ao po md rc cr pg) (wr := mW cI x t z rf rwa pl hd ha lo ol asa md T Z RF R P Hd HA Lo Ol AS) ⟨hx, hb, hml, hown, htl⟩ hC (cwV 2 htl gL_law_X2_at rfl rfl rfl (by decide +kernel) ⟨Nat.le_of_ble_eq_true rfl, Nat.le_of_ble_eq_true rfl⟩) hK hP hD hS hA [0, 1, 2, 3, 4, 5, 6, 7, 8, 9, 10, 11, 12] [13, 14, 15, 16, 17, 18, 19, 20, 21, 22, 23] rfl rfl (by decide) (by decide) (by decide) 0 (ci := 2) rfl rfl rfl rfl hl.1 rfl (Nat.le_of_ble_eq_true rfl) dL_law_354 ⟨Nat.le_of_ble_eq_true rfl, Nat.le_of_ble_eq_true rfl⟩ (fun v1 w1 H locs hq hP hD hS => ?_)
  obtain ⟨rfl, rfl⟩ := hq
  refine W.eq (g2 := F0 m 357 ls [.int (r)]) rfl ?_
  refine lv_aload_n hx hb dL_law_357 rfl (lv_at hl 3 rfl) ?_
  refine lv_aload_n hx hb dL_law_358 rfl (lv_at hl 1 rfl) ?_
  refine lv_iload_n hx hb dL_law_359 rfl (lv_at hl 0 rfl) ?_
  refine lv_iconst (v := nI 1) hx hb dL_law_360 (by decide) ?_
  refine pw_iadd hx hb dL_law_361 ?_
  refine pw_sld hx hb hX hbl hbA hS (show (5 * kk) + 1 < L by omega) (by omega) dL_law_362 ?_
  refine lv_aload_n hx hb dL_law_363 rfl (lv_at hl 1 rfl) ?_
  refine lv_iload_n hx hb dL_law_364 rfl (lv_at hl 0 rfl) ?_
  refine lv_iconst (v := nI 2) hx hb dL_law_365 (by decide) ?_
  refine pw_iadd hx hb dL_law_366 ?_
  refine pw_sld hx hb hX hbl hbA hS (show (5 * kk) + 2 < L by omega) (by omega) dL_law_367 ?_
  refine pw_cVm (Ts := wsL_law) (own := RL) (C := RX3) (As := [.int (xs ((5 * kk) + 1)), .int (xs ((5 * kk) + 2))]) (rest := [.int (r)]) (wc := mW cI x t z rf rwa pl hd ha lo ol asa md T Z RF R P Hd HA Lo Ol AS) (wr := cW cI cP cR h qr qp ro ao po md2 rc2 cr2 pg2) ⟨hx, hb, hml, hown, htl⟩ hM (cwV 2 htl gL_law_X3_at rfl rfl rfl (by decide +kernel) ⟨Nat.le_of_ble_eq_true rfl, Nat.le_of_ble_eq_true rfl⟩) hK hP hD hS hA [0, 1, 2, 3, 4, 5, 6, 7, 8, 9, 10] [11, 12, 13, 14, 15, 16, 17, 18, 19, 20, 21, 22, 23] rfl rfl (by decide) (by decide) (by decide) 0 (ci := 3) rfl rfl rfl rfl hl.1 rfl (Nat.le_of_ble_eq_true rfl) dL_law_368 ⟨Nat.le_of_ble_eq_true rfl, Nat.le_of_ble_eq_true rfl⟩ (fun v1 w1 H locs hq hP hD hS => ?_)
  obtain ⟨rfl, rfl⟩ := hq
  refine W.eq (g2 := F0 m 371 ls [.int (r), .int (r)]) rfl ?_
  refine lv_icmp_eq (tgt := 1111) hx hb dL_law_371 (by decide) (fun c_1 => ?_) (fun c_1 => ?_)
  · have _h := c_1
    exact cont md2 rc2 RF2 cr2 T2 Z2 pg2 R2 P2 Hd2 HA2 Lo2 Ol2 AS2 hR2 H locs hP hD hS ls hl
  · exact absurd rfl c_1
set_option maxHeartbeats 4000000 in
set_option maxRecDepth 100000 in
theorem lc_lay (hL : L ≤ 2560) (C0 : lw_At p s m meth c b L xs) (hK : pw_K D cI cP cR s) (hro : ∀ i j, i < 3 → j < 3 → ro i = ro j → i = j) (h5 : 5 * kk + 5 ≤ L) (hR : Rel kk md rc RF cr T Z pg R P Hd HA Lo Ol) (cont : ∀ (md2 : Nat) (rc2 RF2 : Nat → Int32) (cr2 : Nat → Nat × Nat × (Nat → Int32)) (T2 : Nat → Nat → Int32) (Z2 : Nat → Nat) (pg2 : Nat → PgT) (R2 P2 Hd2 HA2 Lo2 Ol2 AS2 : Nat → Int32), Rel (kk + 1) md2 rc2 RF2 cr2 T2 Z2 pg2 R2 P2 Hd2 HA2 Lo2 Ol2 → ∀ (H : Heap) (locs : List Loc), va_P D vwCl (cW cI cP cR h qr qp ro ao po md2 rc2 cr2 pg2 ++ mW cI x t z rf rwa pl hd ha lo ol asa md2 T2 Z2 RF2 R2 P2 Hd2 HA2 Lo2 Ol2 AS2) H → va_D (fun q : Nat => s.heap.size ≤ q) (cW cI cP cR h qr qp ro ao po md2 rc2 cr2 pg2 ++ mW cI x t z rf rwa pl hd ha lo ol asa md2 T2 Z2 RF2 R2 P2 Hd2 HA2 Lo2 Ol2 AS2) → va_S (fun q : Nat => s.heap.size ≤ q) s.heap H locs → ∀ ls : Array Slot, lv_has ls 4 [(3, .int (nI (5 * kk))), (0, .ref b), (1, .ref h), (2, .ref x)] → W p l e room_1 s m #[Value.ref b] below meth c H locs 24 525 (lw_Z below #[Value.ref b] s) (F0 m 1111 ls [])) : ∀ (H : Heap) (locs : List Loc), va_P D vwCl (cW cI cP cR h qr qp ro ao po md rc cr pg ++ mW cI x t z rf rwa pl hd ha lo ol asa md T Z RF R P Hd HA Lo Ol AS) H → va_D (fun q : Nat => s.heap.size ≤ q) (cW cI cP cR h qr qp ro ao po md rc cr pg ++ mW cI x t z rf rwa pl hd ha lo ol asa md T Z RF R P Hd HA Lo Ol AS) → va_S (fun q : Nat => s.heap.size ≤ q) s.heap H locs → ∀ ls : Array Slot, lv_has ls 4 [(3, .int (nI (5 * kk))), (0, .ref b), (1, .ref h), (2, .ref x)] → W p l e room_1 s m #[Value.ref b] below meth c H locs 24 525 (lw_Z below #[Value.ref b] s) (F0 m 376 ls []) := by
  obtain ⟨hx, hb, hr, hml, hown, hts, hX, hbl, hlocks, hgv⟩ := C0
  have htl : ∀ w ∈ wsL_law, w.before #[Value.ref b] s = true := fun w hw => hts w (wsL_law_in w hw)
  have hA : ∀ q : Nat, s.heap.size ≤ q → (fun q : Nat => s.heap.size ≤ q) q := fun _ h => h
  have hbA : ¬ (fun q : Nat => s.heap.size ≤ q) b := Nat.not_le.mpr hbl
  intro H locs hP hD hS ls hl
  refine lv_aload_n hx hb dL_law_376 rfl (lv_at hl 2 rfl) ?_
  refine lv_aload_n hx hb dL_law_377 rfl (lv_at hl 1 rfl) ?_
  refine lv_iload_n hx hb dL_law_378 rfl (lv_at hl 0 rfl) ?_
  refine lv_iconst (v := nI 1) hx hb dL_law_379 (by decide) ?_
  refine pw_iadd hx hb dL_law_380 ?_
  refine pw_sld hx hb hX hbl hbA hS (show (5 * kk) + 1 < L by omega) (by omega) dL_law_381 ?_
  refine lv_aload_n hx hb dL_law_382 rfl (lv_at hl 1 rfl) ?_
  refine lv_iload_n hx hb dL_law_383 rfl (lv_at hl 0 rfl) ?_
  refine lv_iconst (v := nI 2) hx hb dL_law_384 (by decide) ?_
  refine pw_iadd hx hb dL_law_385 ?_
  refine pw_sld hx hb hX hbl hbA hS (show (5 * kk) + 2 < L by omega) (by omega) dL_law_386 ?_
  refine lv_aload_n hx hb dL_law_387 rfl (lv_at hl 1 rfl) ?_
  refine lv_iload_n hx hb dL_law_388 rfl (lv_at hl 0 rfl) ?_
  refine lv_iconst (v := nI 3) hx hb dL_law_389 (by decide) ?_
  refine pw_iadd hx hb dL_law_390 ?_
  refine pw_sld hx hb hX hbl hbA hS (show (5 * kk) + 3 < L by omega) (by omega) dL_law_391 ?_
  obtain ⟨r, md2, rc2, RF2, cr2, T2, Z2, pg2, R2, P2, Hd2, HA2, Lo2, Ol2, AS2, hR2, hC, hM⟩ := sim_lay (l := l) (D := D) (cI := cI) (cP := cP) (cR := cR) (h := h) (qr := qr) (qp := qp) (ro := ro) (ao := ao) (po := po) (x := x) (t := t) (z := z) (rf := rf) (rwa := rwa) (pl := pl) (hd := hd) (ha := ha) (lo := lo) (ol := ol) (asa := asa) (AS := AS) (by omega) hro hR (xs ((5 * kk) + 1)) (xs ((5 * kk) + 2)) (xs ((5 * kk) + 3))
  refine pw_cVm (Ts := wsL_law) (own := RL) (C := RX2) (As := [.int (xs ((5 * kk) + 1)), .int (xs ((5 * kk) + 2)), .int (xs ((5 * kk) + 3))]) (rest := []) (wc := cW cI cP cR h qr qp ro ao po md rc cr pg) (wr := mW cI x t z rf rwa pl hd ha lo ol asa md T Z RF R P Hd HA Lo Ol AS) ⟨hx, hb, hml, hown, htl⟩ hC (cwV 3 htl gL_law_X2_lay rfl rfl rfl (by decide +kernel) ⟨Nat.le_of_ble_eq_true rfl, Nat.le_of_ble_eq_true rfl⟩) hK hP hD hS hA [0, 1, 2, 3, 4, 5, 6, 7, 8, 9, 10, 11, 12] [13, 14, 15, 16, 17, 18, 19, 20, 21, 22, 23] rfl rfl (by decide) (by decide) (by decide) 0 (ci := 2) rfl rfl rfl rfl hl.1 rfl (Nat.le_of_ble_eq_true rfl) dL_law_392 ⟨Nat.le_of_ble_eq_true rfl, Nat.le_of_ble_eq_true rfl⟩ (fun v1 w1 H locs hq hP hD hS => ?_)
  obtain ⟨rfl, rfl⟩ := hq
  refine W.eq (g2 := F0 m 395 ls [.int (r)]) rfl ?_
  refine lv_aload_n hx hb dL_law_395 rfl (lv_at hl 3 rfl) ?_
  refine lv_aload_n hx hb dL_law_396 rfl (lv_at hl 1 rfl) ?_
  refine lv_iload_n hx hb dL_law_397 rfl (lv_at hl 0 rfl) ?_
  refine lv_iconst (v := nI 1) hx hb dL_law_398 (by decide) ?_
  refine pw_iadd hx hb dL_law_399 ?_
  refine pw_sld hx hb hX hbl hbA hS (show (5 * kk) + 1 < L by omega) (by omega) dL_law_400 ?_
  refine lv_aload_n hx hb dL_law_401 rfl (lv_at hl 1 rfl) ?_
  refine lv_iload_n hx hb dL_law_402 rfl (lv_at hl 0 rfl) ?_
  refine lv_iconst (v := nI 2) hx hb dL_law_403 (by decide) ?_
  refine pw_iadd hx hb dL_law_404 ?_
  refine pw_sld hx hb hX hbl hbA hS (show (5 * kk) + 2 < L by omega) (by omega) dL_law_405 ?_
  refine lv_aload_n hx hb dL_law_406 rfl (lv_at hl 1 rfl) ?_
  refine lv_iload_n hx hb dL_law_407 rfl (lv_at hl 0 rfl) ?_
  refine lv_iconst (v := nI 3) hx hb dL_law_408 (by decide) ?_
  refine pw_iadd hx hb dL_law_409 ?_
  refine pw_sld hx hb hX hbl hbA hS (show (5 * kk) + 3 < L by omega) (by omega) dL_law_410 ?_
  refine pw_cVm (Ts := wsL_law) (own := RL) (C := RX3) (As := [.int (xs ((5 * kk) + 1)), .int (xs ((5 * kk) + 2)), .int (xs ((5 * kk) + 3))]) (rest := [.int (r)]) (wc := mW cI x t z rf rwa pl hd ha lo ol asa md T Z RF R P Hd HA Lo Ol AS) (wr := cW cI cP cR h qr qp ro ao po md2 rc2 cr2 pg2) ⟨hx, hb, hml, hown, htl⟩ hM (cwV 3 htl gL_law_X3_lay rfl rfl rfl (by decide +kernel) ⟨Nat.le_of_ble_eq_true rfl, Nat.le_of_ble_eq_true rfl⟩) hK hP hD hS hA [0, 1, 2, 3, 4, 5, 6, 7, 8, 9, 10] [11, 12, 13, 14, 15, 16, 17, 18, 19, 20, 21, 22, 23] rfl rfl (by decide) (by decide) (by decide) 0 (ci := 3) rfl rfl rfl rfl hl.1 rfl (Nat.le_of_ble_eq_true rfl) dL_law_411 ⟨Nat.le_of_ble_eq_true rfl, Nat.le_of_ble_eq_true rfl⟩ (fun v1 w1 H locs hq hP hD hS => ?_)
  obtain ⟨rfl, rfl⟩ := hq
  refine W.eq (g2 := F0 m 414 ls [.int (r), .int (r)]) rfl ?_
  refine lv_icmp_eq (tgt := 1111) hx hb dL_law_414 (by decide) (fun c_1 => ?_) (fun c_1 => ?_)
  · have _h := c_1
    exact cont md2 rc2 RF2 cr2 T2 Z2 pg2 R2 P2 Hd2 HA2 Lo2 Ol2 AS2 hR2 H locs hP hD hS ls hl
  · exact absurd rfl c_1
set_option maxHeartbeats 4000000 in
set_option maxRecDepth 100000 in
theorem lc_insert (hL : L ≤ 2560) (C0 : lw_At p s m meth c b L xs) (hK : pw_K D cI cP cR s) (hro : ∀ i j, i < 3 → j < 3 → ro i = ro j → i = j) (h5 : 5 * kk + 5 ≤ L) (hR : Rel kk md rc RF cr T Z pg R P Hd HA Lo Ol) (cont : ∀ (md2 : Nat) (rc2 RF2 : Nat → Int32) (cr2 : Nat → Nat × Nat × (Nat → Int32)) (T2 : Nat → Nat → Int32) (Z2 : Nat → Nat) (pg2 : Nat → PgT) (R2 P2 Hd2 HA2 Lo2 Ol2 AS2 : Nat → Int32), Rel (kk + 1) md2 rc2 RF2 cr2 T2 Z2 pg2 R2 P2 Hd2 HA2 Lo2 Ol2 → ∀ (H : Heap) (locs : List Loc), va_P D vwCl (cW cI cP cR h qr qp ro ao po md2 rc2 cr2 pg2 ++ mW cI x t z rf rwa pl hd ha lo ol asa md2 T2 Z2 RF2 R2 P2 Hd2 HA2 Lo2 Ol2 AS2) H → va_D (fun q : Nat => s.heap.size ≤ q) (cW cI cP cR h qr qp ro ao po md2 rc2 cr2 pg2 ++ mW cI x t z rf rwa pl hd ha lo ol asa md2 T2 Z2 RF2 R2 P2 Hd2 HA2 Lo2 Ol2 AS2) → va_S (fun q : Nat => s.heap.size ≤ q) s.heap H locs → ∀ ls : Array Slot, lv_has ls 4 [(3, .int (nI (5 * kk))), (0, .ref b), (1, .ref h), (2, .ref x)] → W p l e room_1 s m #[Value.ref b] below meth c H locs 24 525 (lw_Z below #[Value.ref b] s) (F0 m 1111 ls [])) : ∀ (H : Heap) (locs : List Loc), va_P D vwCl (cW cI cP cR h qr qp ro ao po md rc cr pg ++ mW cI x t z rf rwa pl hd ha lo ol asa md T Z RF R P Hd HA Lo Ol AS) H → va_D (fun q : Nat => s.heap.size ≤ q) (cW cI cP cR h qr qp ro ao po md rc cr pg ++ mW cI x t z rf rwa pl hd ha lo ol asa md T Z RF R P Hd HA Lo Ol AS) → va_S (fun q : Nat => s.heap.size ≤ q) s.heap H locs → ∀ ls : Array Slot, lv_has ls 4 [(3, .int (nI (5 * kk))), (0, .ref b), (1, .ref h), (2, .ref x)] → W p l e room_1 s m #[Value.ref b] below meth c H locs 24 525 (lw_Z below #[Value.ref b] s) (F0 m 419 ls []) := by
  obtain ⟨hx, hb, hr, hml, hown, hts, hX, hbl, hlocks, hgv⟩ := C0
  have htl : ∀ w ∈ wsL_law, w.before #[Value.ref b] s = true := fun w hw => hts w (wsL_law_in w hw)
  have hA : ∀ q : Nat, s.heap.size ≤ q → (fun q : Nat => s.heap.size ≤ q) q := fun _ h => h
  have hbA : ¬ (fun q : Nat => s.heap.size ≤ q) b := Nat.not_le.mpr hbl
  intro H locs hP hD hS ls hl
  refine lv_aload_n hx hb dL_law_419 rfl (lv_at hl 2 rfl) ?_
  refine lv_aload_n hx hb dL_law_420 rfl (lv_at hl 1 rfl) ?_
  refine lv_iload_n hx hb dL_law_421 rfl (lv_at hl 0 rfl) ?_
  refine lv_iconst (v := nI 1) hx hb dL_law_422 (by decide) ?_
  refine pw_iadd hx hb dL_law_423 ?_
  refine pw_sld hx hb hX hbl hbA hS (show (5 * kk) + 1 < L by omega) (by omega) dL_law_424 ?_
  refine lv_aload_n hx hb dL_law_425 rfl (lv_at hl 1 rfl) ?_
  refine lv_iload_n hx hb dL_law_426 rfl (lv_at hl 0 rfl) ?_
  refine lv_iconst (v := nI 2) hx hb dL_law_427 (by decide) ?_
  refine pw_iadd hx hb dL_law_428 ?_
  refine pw_sld hx hb hX hbl hbA hS (show (5 * kk) + 2 < L by omega) (by omega) dL_law_429 ?_
  refine lv_aload_n hx hb dL_law_430 rfl (lv_at hl 1 rfl) ?_
  refine lv_iload_n hx hb dL_law_431 rfl (lv_at hl 0 rfl) ?_
  refine lv_iconst (v := nI 3) hx hb dL_law_432 (by decide) ?_
  refine pw_iadd hx hb dL_law_433 ?_
  refine pw_sld hx hb hX hbl hbA hS (show (5 * kk) + 3 < L by omega) (by omega) dL_law_434 ?_
  obtain ⟨r, md2, rc2, RF2, cr2, T2, Z2, pg2, R2, P2, Hd2, HA2, Lo2, Ol2, AS2, hR2, hC, hM⟩ := sim_insert (l := l) (D := D) (cI := cI) (cP := cP) (cR := cR) (h := h) (qr := qr) (qp := qp) (ro := ro) (ao := ao) (po := po) (x := x) (t := t) (z := z) (rf := rf) (rwa := rwa) (pl := pl) (hd := hd) (ha := ha) (lo := lo) (ol := ol) (asa := asa) (AS := AS) (by omega) hro hR (xs ((5 * kk) + 1)) (xs ((5 * kk) + 2)) (xs ((5 * kk) + 3))
  refine pw_cVm (Ts := wsL_law) (own := RL) (C := RX2) (As := [.int (xs ((5 * kk) + 1)), .int (xs ((5 * kk) + 2)), .int (xs ((5 * kk) + 3))]) (rest := []) (wc := cW cI cP cR h qr qp ro ao po md rc cr pg) (wr := mW cI x t z rf rwa pl hd ha lo ol asa md T Z RF R P Hd HA Lo Ol AS) ⟨hx, hb, hml, hown, htl⟩ hC (cwV 3 htl gL_law_X2_insert rfl rfl rfl (by decide +kernel) ⟨Nat.le_of_ble_eq_true rfl, Nat.le_of_ble_eq_true rfl⟩) hK hP hD hS hA [0, 1, 2, 3, 4, 5, 6, 7, 8, 9, 10, 11, 12] [13, 14, 15, 16, 17, 18, 19, 20, 21, 22, 23] rfl rfl (by decide) (by decide) (by decide) 0 (ci := 2) rfl rfl rfl rfl hl.1 rfl (Nat.le_of_ble_eq_true rfl) dL_law_435 ⟨Nat.le_of_ble_eq_true rfl, Nat.le_of_ble_eq_true rfl⟩ (fun v1 w1 H locs hq hP hD hS => ?_)
  obtain ⟨rfl, rfl⟩ := hq
  refine W.eq (g2 := F0 m 438 ls [.int (r)]) rfl ?_
  refine lv_aload_n hx hb dL_law_438 rfl (lv_at hl 3 rfl) ?_
  refine lv_aload_n hx hb dL_law_439 rfl (lv_at hl 1 rfl) ?_
  refine lv_iload_n hx hb dL_law_440 rfl (lv_at hl 0 rfl) ?_
  refine lv_iconst (v := nI 1) hx hb dL_law_441 (by decide) ?_
  refine pw_iadd hx hb dL_law_442 ?_
  refine pw_sld hx hb hX hbl hbA hS (show (5 * kk) + 1 < L by omega) (by omega) dL_law_443 ?_
  refine lv_aload_n hx hb dL_law_444 rfl (lv_at hl 1 rfl) ?_
  refine lv_iload_n hx hb dL_law_445 rfl (lv_at hl 0 rfl) ?_
  refine lv_iconst (v := nI 2) hx hb dL_law_446 (by decide) ?_
  refine pw_iadd hx hb dL_law_447 ?_
  refine pw_sld hx hb hX hbl hbA hS (show (5 * kk) + 2 < L by omega) (by omega) dL_law_448 ?_
  refine lv_aload_n hx hb dL_law_449 rfl (lv_at hl 1 rfl) ?_
  refine lv_iload_n hx hb dL_law_450 rfl (lv_at hl 0 rfl) ?_
  refine lv_iconst (v := nI 3) hx hb dL_law_451 (by decide) ?_
  refine pw_iadd hx hb dL_law_452 ?_
  refine pw_sld hx hb hX hbl hbA hS (show (5 * kk) + 3 < L by omega) (by omega) dL_law_453 ?_
  refine pw_cVm (Ts := wsL_law) (own := RL) (C := RX3) (As := [.int (xs ((5 * kk) + 1)), .int (xs ((5 * kk) + 2)), .int (xs ((5 * kk) + 3))]) (rest := [.int (r)]) (wc := mW cI x t z rf rwa pl hd ha lo ol asa md T Z RF R P Hd HA Lo Ol AS) (wr := cW cI cP cR h qr qp ro ao po md2 rc2 cr2 pg2) ⟨hx, hb, hml, hown, htl⟩ hM (cwV 3 htl gL_law_X3_insert rfl rfl rfl (by decide +kernel) ⟨Nat.le_of_ble_eq_true rfl, Nat.le_of_ble_eq_true rfl⟩) hK hP hD hS hA [0, 1, 2, 3, 4, 5, 6, 7, 8, 9, 10] [11, 12, 13, 14, 15, 16, 17, 18, 19, 20, 21, 22, 23] rfl rfl (by decide) (by decide) (by decide) 0 (ci := 3) rfl rfl rfl rfl hl.1 rfl (Nat.le_of_ble_eq_true rfl) dL_law_454 ⟨Nat.le_of_ble_eq_true rfl, Nat.le_of_ble_eq_true rfl⟩ (fun v1 w1 H locs hq hP hD hS => ?_)
  obtain ⟨rfl, rfl⟩ := hq
  refine W.eq (g2 := F0 m 457 ls [.int (r), .int (r)]) rfl ?_
  refine lv_icmp_eq (tgt := 1111) hx hb dL_law_457 (by decide) (fun c_1 => ?_) (fun c_1 => ?_)
  · have _h := c_1
    exact cont md2 rc2 RF2 cr2 T2 Z2 pg2 R2 P2 Hd2 HA2 Lo2 Ol2 AS2 hR2 H locs hP hD hS ls hl
  · exact absurd rfl c_1
set_option maxHeartbeats 4000000 in
set_option maxRecDepth 100000 in
theorem lc_drop (hL : L ≤ 2560) (C0 : lw_At p s m meth c b L xs) (hK : pw_K D cI cP cR s) (hro : ∀ i j, i < 3 → j < 3 → ro i = ro j → i = j) (h5 : 5 * kk + 5 ≤ L) (hR : Rel kk md rc RF cr T Z pg R P Hd HA Lo Ol) (cont : ∀ (md2 : Nat) (rc2 RF2 : Nat → Int32) (cr2 : Nat → Nat × Nat × (Nat → Int32)) (T2 : Nat → Nat → Int32) (Z2 : Nat → Nat) (pg2 : Nat → PgT) (R2 P2 Hd2 HA2 Lo2 Ol2 AS2 : Nat → Int32), Rel (kk + 1) md2 rc2 RF2 cr2 T2 Z2 pg2 R2 P2 Hd2 HA2 Lo2 Ol2 → ∀ (H : Heap) (locs : List Loc), va_P D vwCl (cW cI cP cR h qr qp ro ao po md2 rc2 cr2 pg2 ++ mW cI x t z rf rwa pl hd ha lo ol asa md2 T2 Z2 RF2 R2 P2 Hd2 HA2 Lo2 Ol2 AS2) H → va_D (fun q : Nat => s.heap.size ≤ q) (cW cI cP cR h qr qp ro ao po md2 rc2 cr2 pg2 ++ mW cI x t z rf rwa pl hd ha lo ol asa md2 T2 Z2 RF2 R2 P2 Hd2 HA2 Lo2 Ol2 AS2) → va_S (fun q : Nat => s.heap.size ≤ q) s.heap H locs → ∀ ls : Array Slot, lv_has ls 4 [(3, .int (nI (5 * kk))), (0, .ref b), (1, .ref h), (2, .ref x)] → W p l e room_1 s m #[Value.ref b] below meth c H locs 24 525 (lw_Z below #[Value.ref b] s) (F0 m 1111 ls [])) : ∀ (H : Heap) (locs : List Loc), va_P D vwCl (cW cI cP cR h qr qp ro ao po md rc cr pg ++ mW cI x t z rf rwa pl hd ha lo ol asa md T Z RF R P Hd HA Lo Ol AS) H → va_D (fun q : Nat => s.heap.size ≤ q) (cW cI cP cR h qr qp ro ao po md rc cr pg ++ mW cI x t z rf rwa pl hd ha lo ol asa md T Z RF R P Hd HA Lo Ol AS) → va_S (fun q : Nat => s.heap.size ≤ q) s.heap H locs → ∀ ls : Array Slot, lv_has ls 4 [(3, .int (nI (5 * kk))), (0, .ref b), (1, .ref h), (2, .ref x)] → W p l e room_1 s m #[Value.ref b] below meth c H locs 24 525 (lw_Z below #[Value.ref b] s) (F0 m 462 ls []) := by
  obtain ⟨hx, hb, hr, hml, hown, hts, hX, hbl, hlocks, hgv⟩ := C0
  have htl : ∀ w ∈ wsL_law, w.before #[Value.ref b] s = true := fun w hw => hts w (wsL_law_in w hw)
  have hA : ∀ q : Nat, s.heap.size ≤ q → (fun q : Nat => s.heap.size ≤ q) q := fun _ h => h
  have hbA : ¬ (fun q : Nat => s.heap.size ≤ q) b := Nat.not_le.mpr hbl
  intro H locs hP hD hS ls hl
  refine lv_aload_n hx hb dL_law_462 rfl (lv_at hl 2 rfl) ?_
  refine lv_aload_n hx hb dL_law_463 rfl (lv_at hl 1 rfl) ?_
  refine lv_iload_n hx hb dL_law_464 rfl (lv_at hl 0 rfl) ?_
  refine lv_iconst (v := nI 1) hx hb dL_law_465 (by decide) ?_
  refine pw_iadd hx hb dL_law_466 ?_
  refine pw_sld hx hb hX hbl hbA hS (show (5 * kk) + 1 < L by omega) (by omega) dL_law_467 ?_
  refine lv_aload_n hx hb dL_law_468 rfl (lv_at hl 1 rfl) ?_
  refine lv_iload_n hx hb dL_law_469 rfl (lv_at hl 0 rfl) ?_
  refine lv_iconst (v := nI 2) hx hb dL_law_470 (by decide) ?_
  refine pw_iadd hx hb dL_law_471 ?_
  refine pw_sld hx hb hX hbl hbA hS (show (5 * kk) + 2 < L by omega) (by omega) dL_law_472 ?_
  obtain ⟨r, md2, rc2, RF2, cr2, T2, Z2, pg2, R2, P2, Hd2, HA2, Lo2, Ol2, AS2, hR2, hC, hM⟩ := sim_drop (l := l) (D := D) (cI := cI) (cP := cP) (cR := cR) (h := h) (qr := qr) (qp := qp) (ro := ro) (ao := ao) (po := po) (x := x) (t := t) (z := z) (rf := rf) (rwa := rwa) (pl := pl) (hd := hd) (ha := ha) (lo := lo) (ol := ol) (asa := asa) (AS := AS) (by omega) hro hR (xs ((5 * kk) + 1)) (xs ((5 * kk) + 2))
  refine pw_cVm (Ts := wsL_law) (own := RL) (C := RX2) (As := [.int (xs ((5 * kk) + 1)), .int (xs ((5 * kk) + 2))]) (rest := []) (wc := cW cI cP cR h qr qp ro ao po md rc cr pg) (wr := mW cI x t z rf rwa pl hd ha lo ol asa md T Z RF R P Hd HA Lo Ol AS) ⟨hx, hb, hml, hown, htl⟩ hC (cwV 2 htl gL_law_X2_drop rfl rfl rfl (by decide +kernel) ⟨Nat.le_of_ble_eq_true rfl, Nat.le_of_ble_eq_true rfl⟩) hK hP hD hS hA [0, 1, 2, 3, 4, 5, 6, 7, 8, 9, 10, 11, 12] [13, 14, 15, 16, 17, 18, 19, 20, 21, 22, 23] rfl rfl (by decide) (by decide) (by decide) 0 (ci := 2) rfl rfl rfl rfl hl.1 rfl (Nat.le_of_ble_eq_true rfl) dL_law_473 ⟨Nat.le_of_ble_eq_true rfl, Nat.le_of_ble_eq_true rfl⟩ (fun v1 w1 H locs hq hP hD hS => ?_)
  obtain ⟨rfl, rfl⟩ := hq
  refine W.eq (g2 := F0 m 476 ls [.int (r)]) rfl ?_
  refine lv_aload_n hx hb dL_law_476 rfl (lv_at hl 3 rfl) ?_
  refine lv_aload_n hx hb dL_law_477 rfl (lv_at hl 1 rfl) ?_
  refine lv_iload_n hx hb dL_law_478 rfl (lv_at hl 0 rfl) ?_
  refine lv_iconst (v := nI 1) hx hb dL_law_479 (by decide) ?_
  refine pw_iadd hx hb dL_law_480 ?_
  refine pw_sld hx hb hX hbl hbA hS (show (5 * kk) + 1 < L by omega) (by omega) dL_law_481 ?_
  refine lv_aload_n hx hb dL_law_482 rfl (lv_at hl 1 rfl) ?_
  refine lv_iload_n hx hb dL_law_483 rfl (lv_at hl 0 rfl) ?_
  refine lv_iconst (v := nI 2) hx hb dL_law_484 (by decide) ?_
  refine pw_iadd hx hb dL_law_485 ?_
  refine pw_sld hx hb hX hbl hbA hS (show (5 * kk) + 2 < L by omega) (by omega) dL_law_486 ?_
  refine pw_cVm (Ts := wsL_law) (own := RL) (C := RX3) (As := [.int (xs ((5 * kk) + 1)), .int (xs ((5 * kk) + 2))]) (rest := [.int (r)]) (wc := mW cI x t z rf rwa pl hd ha lo ol asa md T Z RF R P Hd HA Lo Ol AS) (wr := cW cI cP cR h qr qp ro ao po md2 rc2 cr2 pg2) ⟨hx, hb, hml, hown, htl⟩ hM (cwV 2 htl gL_law_X3_drop rfl rfl rfl (by decide +kernel) ⟨Nat.le_of_ble_eq_true rfl, Nat.le_of_ble_eq_true rfl⟩) hK hP hD hS hA [0, 1, 2, 3, 4, 5, 6, 7, 8, 9, 10] [11, 12, 13, 14, 15, 16, 17, 18, 19, 20, 21, 22, 23] rfl rfl (by decide) (by decide) (by decide) 0 (ci := 3) rfl rfl rfl rfl hl.1 rfl (Nat.le_of_ble_eq_true rfl) dL_law_487 ⟨Nat.le_of_ble_eq_true rfl, Nat.le_of_ble_eq_true rfl⟩ (fun v1 w1 H locs hq hP hD hS => ?_)
  obtain ⟨rfl, rfl⟩ := hq
  refine W.eq (g2 := F0 m 490 ls [.int (r), .int (r)]) rfl ?_
  refine lv_icmp_eq (tgt := 1111) hx hb dL_law_490 (by decide) (fun c_1 => ?_) (fun c_1 => ?_)
  · have _h := c_1
    exact cont md2 rc2 RF2 cr2 T2 Z2 pg2 R2 P2 Hd2 HA2 Lo2 Ol2 AS2 hR2 H locs hP hD hS ls hl
  · exact absurd rfl c_1
set_option maxHeartbeats 4000000 in
set_option maxRecDepth 100000 in
theorem lc_find (hL : L ≤ 2560) (C0 : lw_At p s m meth c b L xs) (hK : pw_K D cI cP cR s) (hro : ∀ i j, i < 3 → j < 3 → ro i = ro j → i = j) (h5 : 5 * kk + 5 ≤ L) (hR : Rel kk md rc RF cr T Z pg R P Hd HA Lo Ol) (cont : ∀ (md2 : Nat) (rc2 RF2 : Nat → Int32) (cr2 : Nat → Nat × Nat × (Nat → Int32)) (T2 : Nat → Nat → Int32) (Z2 : Nat → Nat) (pg2 : Nat → PgT) (R2 P2 Hd2 HA2 Lo2 Ol2 AS2 : Nat → Int32), Rel (kk + 1) md2 rc2 RF2 cr2 T2 Z2 pg2 R2 P2 Hd2 HA2 Lo2 Ol2 → ∀ (H : Heap) (locs : List Loc), va_P D vwCl (cW cI cP cR h qr qp ro ao po md2 rc2 cr2 pg2 ++ mW cI x t z rf rwa pl hd ha lo ol asa md2 T2 Z2 RF2 R2 P2 Hd2 HA2 Lo2 Ol2 AS2) H → va_D (fun q : Nat => s.heap.size ≤ q) (cW cI cP cR h qr qp ro ao po md2 rc2 cr2 pg2 ++ mW cI x t z rf rwa pl hd ha lo ol asa md2 T2 Z2 RF2 R2 P2 Hd2 HA2 Lo2 Ol2 AS2) → va_S (fun q : Nat => s.heap.size ≤ q) s.heap H locs → ∀ ls : Array Slot, lv_has ls 4 [(3, .int (nI (5 * kk))), (0, .ref b), (1, .ref h), (2, .ref x)] → W p l e room_1 s m #[Value.ref b] below meth c H locs 24 525 (lw_Z below #[Value.ref b] s) (F0 m 1111 ls [])) : ∀ (H : Heap) (locs : List Loc), va_P D vwCl (cW cI cP cR h qr qp ro ao po md rc cr pg ++ mW cI x t z rf rwa pl hd ha lo ol asa md T Z RF R P Hd HA Lo Ol AS) H → va_D (fun q : Nat => s.heap.size ≤ q) (cW cI cP cR h qr qp ro ao po md rc cr pg ++ mW cI x t z rf rwa pl hd ha lo ol asa md T Z RF R P Hd HA Lo Ol AS) → va_S (fun q : Nat => s.heap.size ≤ q) s.heap H locs → ∀ ls : Array Slot, lv_has ls 4 [(3, .int (nI (5 * kk))), (0, .ref b), (1, .ref h), (2, .ref x)] → W p l e room_1 s m #[Value.ref b] below meth c H locs 24 525 (lw_Z below #[Value.ref b] s) (F0 m 495 ls []) := by
  obtain ⟨hx, hb, hr, hml, hown, hts, hX, hbl, hlocks, hgv⟩ := C0
  have htl : ∀ w ∈ wsL_law, w.before #[Value.ref b] s = true := fun w hw => hts w (wsL_law_in w hw)
  have hA : ∀ q : Nat, s.heap.size ≤ q → (fun q : Nat => s.heap.size ≤ q) q := fun _ h => h
  have hbA : ¬ (fun q : Nat => s.heap.size ≤ q) b := Nat.not_le.mpr hbl
  intro H locs hP hD hS ls hl
  refine lv_aload_n hx hb dL_law_495 rfl (lv_at hl 2 rfl) ?_
  refine lv_aload_n hx hb dL_law_496 rfl (lv_at hl 1 rfl) ?_
  refine lv_iload_n hx hb dL_law_497 rfl (lv_at hl 0 rfl) ?_
  refine lv_iconst (v := nI 1) hx hb dL_law_498 (by decide) ?_
  refine pw_iadd hx hb dL_law_499 ?_
  refine pw_sld hx hb hX hbl hbA hS (show (5 * kk) + 1 < L by omega) (by omega) dL_law_500 ?_
  refine lv_aload_n hx hb dL_law_501 rfl (lv_at hl 1 rfl) ?_
  refine lv_iload_n hx hb dL_law_502 rfl (lv_at hl 0 rfl) ?_
  refine lv_iconst (v := nI 2) hx hb dL_law_503 (by decide) ?_
  refine pw_iadd hx hb dL_law_504 ?_
  refine pw_sld hx hb hX hbl hbA hS (show (5 * kk) + 2 < L by omega) (by omega) dL_law_505 ?_
  refine lv_aload_n hx hb dL_law_506 rfl (lv_at hl 1 rfl) ?_
  refine lv_iload_n hx hb dL_law_507 rfl (lv_at hl 0 rfl) ?_
  refine lv_iconst (v := nI 3) hx hb dL_law_508 (by decide) ?_
  refine pw_iadd hx hb dL_law_509 ?_
  refine pw_sld hx hb hX hbl hbA hS (show (5 * kk) + 3 < L by omega) (by omega) dL_law_510 ?_
  refine lv_if_eq (tgt := 518) hx hb dL_law_511 (by decide) (fun c_1 => ?_) (fun c_1 => ?_)
  · have _h := c_1
    refine lv_iconst (v := nI 0) hx hb dL_law_518 (by decide) ?_
    obtain ⟨r, md2, rc2, RF2, cr2, T2, Z2, pg2, R2, P2, Hd2, HA2, Lo2, Ol2, AS2, hR2, hC, hM⟩ := sim_find (l := l) (D := D) (cI := cI) (cP := cP) (cR := cR) (h := h) (qr := qr) (qp := qp) (ro := ro) (ao := ao) (po := po) (x := x) (t := t) (z := z) (rf := rf) (rwa := rwa) (pl := pl) (hd := hd) (ha := ha) (lo := lo) (ol := ol) (asa := asa) (AS := AS) (by omega) hro hR (xs ((5 * kk) + 1)) (xs ((5 * kk) + 2)) (nI 0)
    refine pw_cVm (Ts := wsL_law) (own := RL) (C := RX2) (As := [.int (xs ((5 * kk) + 1)), .int (xs ((5 * kk) + 2)), .int (nI 0)]) (rest := []) (wc := cW cI cP cR h qr qp ro ao po md rc cr pg) (wr := mW cI x t z rf rwa pl hd ha lo ol asa md T Z RF R P Hd HA Lo Ol AS) ⟨hx, hb, hml, hown, htl⟩ hC (cwV 3 htl gL_law_X2_find rfl rfl rfl (by decide +kernel) ⟨Nat.le_of_ble_eq_true rfl, Nat.le_of_ble_eq_true rfl⟩) hK hP hD hS hA [0, 1, 2, 3, 4, 5, 6, 7, 8, 9, 10, 11, 12] [13, 14, 15, 16, 17, 18, 19, 20, 21, 22, 23] rfl rfl (by decide) (by decide) (by decide) 0 (ci := 2) rfl rfl rfl rfl hl.1 rfl (Nat.le_of_ble_eq_true rfl) dL_law_519 ⟨Nat.le_of_ble_eq_true rfl, Nat.le_of_ble_eq_true rfl⟩ (fun v1 w1 H locs hq hP hD hS => ?_)
    obtain ⟨rfl, rfl⟩ := hq
    refine W.eq (g2 := F0 m 522 ls [.int (r)]) rfl ?_
    refine lv_aload_n hx hb dL_law_522 rfl (lv_at hl 3 rfl) ?_
    refine lv_aload_n hx hb dL_law_523 rfl (lv_at hl 1 rfl) ?_
    refine lv_iload_n hx hb dL_law_524 rfl (lv_at hl 0 rfl) ?_
    refine lv_iconst (v := nI 1) hx hb dL_law_525 (by decide) ?_
    refine pw_iadd hx hb dL_law_526 ?_
    refine pw_sld hx hb hX hbl hbA hS (show (5 * kk) + 1 < L by omega) (by omega) dL_law_527 ?_
    refine lv_aload_n hx hb dL_law_528 rfl (lv_at hl 1 rfl) ?_
    refine lv_iload_n hx hb dL_law_529 rfl (lv_at hl 0 rfl) ?_
    refine lv_iconst (v := nI 2) hx hb dL_law_530 (by decide) ?_
    refine pw_iadd hx hb dL_law_531 ?_
    refine pw_sld hx hb hX hbl hbA hS (show (5 * kk) + 2 < L by omega) (by omega) dL_law_532 ?_
    refine lv_aload_n hx hb dL_law_533 rfl (lv_at hl 1 rfl) ?_
    refine lv_iload_n hx hb dL_law_534 rfl (lv_at hl 0 rfl) ?_
    refine lv_iconst (v := nI 3) hx hb dL_law_535 (by decide) ?_
    refine pw_iadd hx hb dL_law_536 ?_
    refine pw_sld hx hb hX hbl hbA hS (show (5 * kk) + 3 < L by omega) (by omega) dL_law_537 ?_
    refine lv_if_eq (tgt := 545) hx hb dL_law_538 (by decide) (fun c_2 => ?_) (fun c_2 => ?_)
    · have _h := c_2
      refine lv_iconst (v := nI 0) hx hb dL_law_545 (by decide) ?_
      refine pw_cVm (Ts := wsL_law) (own := RL) (C := RX3) (As := [.int (xs ((5 * kk) + 1)), .int (xs ((5 * kk) + 2)), .int (nI 0)]) (rest := [.int (r)]) (wc := mW cI x t z rf rwa pl hd ha lo ol asa md T Z RF R P Hd HA Lo Ol AS) (wr := cW cI cP cR h qr qp ro ao po md2 rc2 cr2 pg2) ⟨hx, hb, hml, hown, htl⟩ hM (cwV 3 htl gL_law_X3_find rfl rfl rfl (by decide +kernel) ⟨Nat.le_of_ble_eq_true rfl, Nat.le_of_ble_eq_true rfl⟩) hK hP hD hS hA [0, 1, 2, 3, 4, 5, 6, 7, 8, 9, 10] [11, 12, 13, 14, 15, 16, 17, 18, 19, 20, 21, 22, 23] rfl rfl (by decide) (by decide) (by decide) 0 (ci := 3) rfl rfl rfl rfl hl.1 rfl (Nat.le_of_ble_eq_true rfl) dL_law_546 ⟨Nat.le_of_ble_eq_true rfl, Nat.le_of_ble_eq_true rfl⟩ (fun v1 w1 H locs hq hP hD hS => ?_)
      obtain ⟨rfl, rfl⟩ := hq
      refine W.eq (g2 := F0 m 549 ls [.int (r), .int (r)]) rfl ?_
      refine lv_icmp_eq (tgt := 1111) hx hb dL_law_549 (by decide) (fun c_3 => ?_) (fun c_3 => ?_)
      · have _h := c_3
        exact cont md2 rc2 RF2 cr2 T2 Z2 pg2 R2 P2 Hd2 HA2 Lo2 Ol2 AS2 hR2 H locs hP hD hS ls hl
      · exact absurd rfl c_3
    · exact absurd c_1 c_2
  · have _h := c_1
    refine lv_iconst (v := nI 1) hx hb dL_law_514 (by decide) ?_
    refine lv_goto (tgt := 519) hx hb dL_law_515 (by decide) ?_
    obtain ⟨r, md2, rc2, RF2, cr2, T2, Z2, pg2, R2, P2, Hd2, HA2, Lo2, Ol2, AS2, hR2, hC, hM⟩ := sim_find (l := l) (D := D) (cI := cI) (cP := cP) (cR := cR) (h := h) (qr := qr) (qp := qp) (ro := ro) (ao := ao) (po := po) (x := x) (t := t) (z := z) (rf := rf) (rwa := rwa) (pl := pl) (hd := hd) (ha := ha) (lo := lo) (ol := ol) (asa := asa) (AS := AS) (by omega) hro hR (xs ((5 * kk) + 1)) (xs ((5 * kk) + 2)) (nI 1)
    refine pw_cVm (Ts := wsL_law) (own := RL) (C := RX2) (As := [.int (xs ((5 * kk) + 1)), .int (xs ((5 * kk) + 2)), .int (nI 1)]) (rest := []) (wc := cW cI cP cR h qr qp ro ao po md rc cr pg) (wr := mW cI x t z rf rwa pl hd ha lo ol asa md T Z RF R P Hd HA Lo Ol AS) ⟨hx, hb, hml, hown, htl⟩ hC (cwV 3 htl gL_law_X2_find rfl rfl rfl (by decide +kernel) ⟨Nat.le_of_ble_eq_true rfl, Nat.le_of_ble_eq_true rfl⟩) hK hP hD hS hA [0, 1, 2, 3, 4, 5, 6, 7, 8, 9, 10, 11, 12] [13, 14, 15, 16, 17, 18, 19, 20, 21, 22, 23] rfl rfl (by decide) (by decide) (by decide) 0 (ci := 2) rfl rfl rfl rfl hl.1 rfl (Nat.le_of_ble_eq_true rfl) dL_law_519 ⟨Nat.le_of_ble_eq_true rfl, Nat.le_of_ble_eq_true rfl⟩ (fun v1 w1 H locs hq hP hD hS => ?_)
    obtain ⟨rfl, rfl⟩ := hq
    refine W.eq (g2 := F0 m 522 ls [.int (r)]) rfl ?_
    refine lv_aload_n hx hb dL_law_522 rfl (lv_at hl 3 rfl) ?_
    refine lv_aload_n hx hb dL_law_523 rfl (lv_at hl 1 rfl) ?_
    refine lv_iload_n hx hb dL_law_524 rfl (lv_at hl 0 rfl) ?_
    refine lv_iconst (v := nI 1) hx hb dL_law_525 (by decide) ?_
    refine pw_iadd hx hb dL_law_526 ?_
    refine pw_sld hx hb hX hbl hbA hS (show (5 * kk) + 1 < L by omega) (by omega) dL_law_527 ?_
    refine lv_aload_n hx hb dL_law_528 rfl (lv_at hl 1 rfl) ?_
    refine lv_iload_n hx hb dL_law_529 rfl (lv_at hl 0 rfl) ?_
    refine lv_iconst (v := nI 2) hx hb dL_law_530 (by decide) ?_
    refine pw_iadd hx hb dL_law_531 ?_
    refine pw_sld hx hb hX hbl hbA hS (show (5 * kk) + 2 < L by omega) (by omega) dL_law_532 ?_
    refine lv_aload_n hx hb dL_law_533 rfl (lv_at hl 1 rfl) ?_
    refine lv_iload_n hx hb dL_law_534 rfl (lv_at hl 0 rfl) ?_
    refine lv_iconst (v := nI 3) hx hb dL_law_535 (by decide) ?_
    refine pw_iadd hx hb dL_law_536 ?_
    refine pw_sld hx hb hX hbl hbA hS (show (5 * kk) + 3 < L by omega) (by omega) dL_law_537 ?_
    refine lv_if_eq (tgt := 545) hx hb dL_law_538 (by decide) (fun c_4 => ?_) (fun c_4 => ?_)
    · exact absurd c_4 c_1
    · have _h := c_4
      refine lv_iconst (v := nI 1) hx hb dL_law_541 (by decide) ?_
      refine lv_goto (tgt := 546) hx hb dL_law_542 (by decide) ?_
      refine pw_cVm (Ts := wsL_law) (own := RL) (C := RX3) (As := [.int (xs ((5 * kk) + 1)), .int (xs ((5 * kk) + 2)), .int (nI 1)]) (rest := [.int (r)]) (wc := mW cI x t z rf rwa pl hd ha lo ol asa md T Z RF R P Hd HA Lo Ol AS) (wr := cW cI cP cR h qr qp ro ao po md2 rc2 cr2 pg2) ⟨hx, hb, hml, hown, htl⟩ hM (cwV 3 htl gL_law_X3_find rfl rfl rfl (by decide +kernel) ⟨Nat.le_of_ble_eq_true rfl, Nat.le_of_ble_eq_true rfl⟩) hK hP hD hS hA [0, 1, 2, 3, 4, 5, 6, 7, 8, 9, 10] [11, 12, 13, 14, 15, 16, 17, 18, 19, 20, 21, 22, 23] rfl rfl (by decide) (by decide) (by decide) 0 (ci := 3) rfl rfl rfl rfl hl.1 rfl (Nat.le_of_ble_eq_true rfl) dL_law_546 ⟨Nat.le_of_ble_eq_true rfl, Nat.le_of_ble_eq_true rfl⟩ (fun v1 w1 H locs hq hP hD hS => ?_)
      obtain ⟨rfl, rfl⟩ := hq
      refine W.eq (g2 := F0 m 549 ls [.int (r), .int (r)]) rfl ?_
      refine lv_icmp_eq (tgt := 1111) hx hb dL_law_549 (by decide) (fun c_5 => ?_) (fun c_5 => ?_)
      · have _h := c_5
        exact cont md2 rc2 RF2 cr2 T2 Z2 pg2 R2 P2 Hd2 HA2 Lo2 Ol2 AS2 hR2 H locs hP hD hS ls hl
      · exact absurd rfl c_5
set_option maxHeartbeats 4000000 in
set_option maxRecDepth 100000 in
theorem lc_has (hL : L ≤ 2560) (C0 : lw_At p s m meth c b L xs) (hK : pw_K D cI cP cR s) (hro : ∀ i j, i < 3 → j < 3 → ro i = ro j → i = j) (h5 : 5 * kk + 5 ≤ L) (hR : Rel kk md rc RF cr T Z pg R P Hd HA Lo Ol) (cont : ∀ (md2 : Nat) (rc2 RF2 : Nat → Int32) (cr2 : Nat → Nat × Nat × (Nat → Int32)) (T2 : Nat → Nat → Int32) (Z2 : Nat → Nat) (pg2 : Nat → PgT) (R2 P2 Hd2 HA2 Lo2 Ol2 AS2 : Nat → Int32), Rel (kk + 1) md2 rc2 RF2 cr2 T2 Z2 pg2 R2 P2 Hd2 HA2 Lo2 Ol2 → ∀ (H : Heap) (locs : List Loc), va_P D vwCl (cW cI cP cR h qr qp ro ao po md2 rc2 cr2 pg2 ++ mW cI x t z rf rwa pl hd ha lo ol asa md2 T2 Z2 RF2 R2 P2 Hd2 HA2 Lo2 Ol2 AS2) H → va_D (fun q : Nat => s.heap.size ≤ q) (cW cI cP cR h qr qp ro ao po md2 rc2 cr2 pg2 ++ mW cI x t z rf rwa pl hd ha lo ol asa md2 T2 Z2 RF2 R2 P2 Hd2 HA2 Lo2 Ol2 AS2) → va_S (fun q : Nat => s.heap.size ≤ q) s.heap H locs → ∀ ls : Array Slot, lv_has ls 4 [(3, .int (nI (5 * kk))), (0, .ref b), (1, .ref h), (2, .ref x)] → W p l e room_1 s m #[Value.ref b] below meth c H locs 24 525 (lw_Z below #[Value.ref b] s) (F0 m 1111 ls [])) : ∀ (H : Heap) (locs : List Loc), va_P D vwCl (cW cI cP cR h qr qp ro ao po md rc cr pg ++ mW cI x t z rf rwa pl hd ha lo ol asa md T Z RF R P Hd HA Lo Ol AS) H → va_D (fun q : Nat => s.heap.size ≤ q) (cW cI cP cR h qr qp ro ao po md rc cr pg ++ mW cI x t z rf rwa pl hd ha lo ol asa md T Z RF R P Hd HA Lo Ol AS) → va_S (fun q : Nat => s.heap.size ≤ q) s.heap H locs → ∀ ls : Array Slot, lv_has ls 4 [(3, .int (nI (5 * kk))), (0, .ref b), (1, .ref h), (2, .ref x)] → W p l e room_1 s m #[Value.ref b] below meth c H locs 24 525 (lw_Z below #[Value.ref b] s) (F0 m 554 ls []) := by
  obtain ⟨hx, hb, hr, hml, hown, hts, hX, hbl, hlocks, hgv⟩ := C0
  have htl : ∀ w ∈ wsL_law, w.before #[Value.ref b] s = true := fun w hw => hts w (wsL_law_in w hw)
  have hA : ∀ q : Nat, s.heap.size ≤ q → (fun q : Nat => s.heap.size ≤ q) q := fun _ h => h
  have hbA : ¬ (fun q : Nat => s.heap.size ≤ q) b := Nat.not_le.mpr hbl
  intro H locs hP hD hS ls hl
  refine lv_aload_n hx hb dL_law_554 rfl (lv_at hl 2 rfl) ?_
  refine lv_aload_n hx hb dL_law_555 rfl (lv_at hl 1 rfl) ?_
  refine lv_iload_n hx hb dL_law_556 rfl (lv_at hl 0 rfl) ?_
  refine lv_iconst (v := nI 1) hx hb dL_law_557 (by decide) ?_
  refine pw_iadd hx hb dL_law_558 ?_
  refine pw_sld hx hb hX hbl hbA hS (show (5 * kk) + 1 < L by omega) (by omega) dL_law_559 ?_
  refine lv_aload_n hx hb dL_law_560 rfl (lv_at hl 1 rfl) ?_
  refine lv_iload_n hx hb dL_law_561 rfl (lv_at hl 0 rfl) ?_
  refine lv_iconst (v := nI 2) hx hb dL_law_562 (by decide) ?_
  refine pw_iadd hx hb dL_law_563 ?_
  refine pw_sld hx hb hX hbl hbA hS (show (5 * kk) + 2 < L by omega) (by omega) dL_law_564 ?_
  obtain ⟨r, md2, rc2, RF2, cr2, T2, Z2, pg2, R2, P2, Hd2, HA2, Lo2, Ol2, AS2, hR2, hC, hM⟩ := sim_has (l := l) (D := D) (cI := cI) (cP := cP) (cR := cR) (h := h) (qr := qr) (qp := qp) (ro := ro) (ao := ao) (po := po) (x := x) (t := t) (z := z) (rf := rf) (rwa := rwa) (pl := pl) (hd := hd) (ha := ha) (lo := lo) (ol := ol) (asa := asa) (AS := AS) (by omega) hro hR (xs ((5 * kk) + 1)) (xs ((5 * kk) + 2))
  refine pw_cVm (Ts := wsL_law) (own := RL) (C := RX2) (As := [.int (xs ((5 * kk) + 1)), .int (xs ((5 * kk) + 2))]) (rest := []) (wc := cW cI cP cR h qr qp ro ao po md rc cr pg) (wr := mW cI x t z rf rwa pl hd ha lo ol asa md T Z RF R P Hd HA Lo Ol AS) ⟨hx, hb, hml, hown, htl⟩ hC (cwV 2 htl gL_law_X2_has rfl rfl rfl (by decide +kernel) ⟨Nat.le_of_ble_eq_true rfl, Nat.le_of_ble_eq_true rfl⟩) hK hP hD hS hA [0, 1, 2, 3, 4, 5, 6, 7, 8, 9, 10, 11, 12] [13, 14, 15, 16, 17, 18, 19, 20, 21, 22, 23] rfl rfl (by decide) (by decide) (by decide) 0 (ci := 2) rfl rfl rfl rfl hl.1 rfl (Nat.le_of_ble_eq_true rfl) dL_law_565 ⟨Nat.le_of_ble_eq_true rfl, Nat.le_of_ble_eq_true rfl⟩ (fun v1 w1 H locs hq hP hD hS => ?_)
  obtain ⟨rfl, rfl⟩ := hq
  refine W.eq (g2 := F0 m 568 ls [.int (r)]) rfl ?_
  refine lv_aload_n hx hb dL_law_568 rfl (lv_at hl 3 rfl) ?_
  refine lv_aload_n hx hb dL_law_569 rfl (lv_at hl 1 rfl) ?_
  refine lv_iload_n hx hb dL_law_570 rfl (lv_at hl 0 rfl) ?_
  refine lv_iconst (v := nI 1) hx hb dL_law_571 (by decide) ?_
  refine pw_iadd hx hb dL_law_572 ?_
  refine pw_sld hx hb hX hbl hbA hS (show (5 * kk) + 1 < L by omega) (by omega) dL_law_573 ?_
  refine lv_aload_n hx hb dL_law_574 rfl (lv_at hl 1 rfl) ?_
  refine lv_iload_n hx hb dL_law_575 rfl (lv_at hl 0 rfl) ?_
  refine lv_iconst (v := nI 2) hx hb dL_law_576 (by decide) ?_
  refine pw_iadd hx hb dL_law_577 ?_
  refine pw_sld hx hb hX hbl hbA hS (show (5 * kk) + 2 < L by omega) (by omega) dL_law_578 ?_
  refine pw_cVm (Ts := wsL_law) (own := RL) (C := RX3) (As := [.int (xs ((5 * kk) + 1)), .int (xs ((5 * kk) + 2))]) (rest := [.int (r)]) (wc := mW cI x t z rf rwa pl hd ha lo ol asa md T Z RF R P Hd HA Lo Ol AS) (wr := cW cI cP cR h qr qp ro ao po md2 rc2 cr2 pg2) ⟨hx, hb, hml, hown, htl⟩ hM (cwV 2 htl gL_law_X3_has rfl rfl rfl (by decide +kernel) ⟨Nat.le_of_ble_eq_true rfl, Nat.le_of_ble_eq_true rfl⟩) hK hP hD hS hA [0, 1, 2, 3, 4, 5, 6, 7, 8, 9, 10] [11, 12, 13, 14, 15, 16, 17, 18, 19, 20, 21, 22, 23] rfl rfl (by decide) (by decide) (by decide) 0 (ci := 3) rfl rfl rfl rfl hl.1 rfl (Nat.le_of_ble_eq_true rfl) dL_law_579 ⟨Nat.le_of_ble_eq_true rfl, Nat.le_of_ble_eq_true rfl⟩ (fun v1 w1 H locs hq hP hD hS => ?_)
  obtain ⟨rfl, rfl⟩ := hq
  refine W.eq (g2 := F0 m 582 ls [.int (r), .int (r)]) rfl ?_
  refine lv_icmp_eq (tgt := 1111) hx hb dL_law_582 (by decide) (fun c_1 => ?_) (fun c_1 => ?_)
  · have _h := c_1
    exact cont md2 rc2 RF2 cr2 T2 Z2 pg2 R2 P2 Hd2 HA2 Lo2 Ol2 AS2 hR2 H locs hP hD hS ls hl
  · exact absurd rfl c_1
set_option maxHeartbeats 4000000 in
set_option maxRecDepth 100000 in
theorem lc_lose (hL : L ≤ 2560) (C0 : lw_At p s m meth c b L xs) (hK : pw_K D cI cP cR s) (hro : ∀ i j, i < 3 → j < 3 → ro i = ro j → i = j) (h5 : 5 * kk + 5 ≤ L) (hR : Rel kk md rc RF cr T Z pg R P Hd HA Lo Ol) (cont : ∀ (md2 : Nat) (rc2 RF2 : Nat → Int32) (cr2 : Nat → Nat × Nat × (Nat → Int32)) (T2 : Nat → Nat → Int32) (Z2 : Nat → Nat) (pg2 : Nat → PgT) (R2 P2 Hd2 HA2 Lo2 Ol2 AS2 : Nat → Int32), Rel (kk + 1) md2 rc2 RF2 cr2 T2 Z2 pg2 R2 P2 Hd2 HA2 Lo2 Ol2 → ∀ (H : Heap) (locs : List Loc), va_P D vwCl (cW cI cP cR h qr qp ro ao po md2 rc2 cr2 pg2 ++ mW cI x t z rf rwa pl hd ha lo ol asa md2 T2 Z2 RF2 R2 P2 Hd2 HA2 Lo2 Ol2 AS2) H → va_D (fun q : Nat => s.heap.size ≤ q) (cW cI cP cR h qr qp ro ao po md2 rc2 cr2 pg2 ++ mW cI x t z rf rwa pl hd ha lo ol asa md2 T2 Z2 RF2 R2 P2 Hd2 HA2 Lo2 Ol2 AS2) → va_S (fun q : Nat => s.heap.size ≤ q) s.heap H locs → ∀ ls : Array Slot, lv_has ls 4 [(3, .int (nI (5 * kk))), (0, .ref b), (1, .ref h), (2, .ref x)] → W p l e room_1 s m #[Value.ref b] below meth c H locs 24 525 (lw_Z below #[Value.ref b] s) (F0 m 1111 ls [])) : ∀ (H : Heap) (locs : List Loc), va_P D vwCl (cW cI cP cR h qr qp ro ao po md rc cr pg ++ mW cI x t z rf rwa pl hd ha lo ol asa md T Z RF R P Hd HA Lo Ol AS) H → va_D (fun q : Nat => s.heap.size ≤ q) (cW cI cP cR h qr qp ro ao po md rc cr pg ++ mW cI x t z rf rwa pl hd ha lo ol asa md T Z RF R P Hd HA Lo Ol AS) → va_S (fun q : Nat => s.heap.size ≤ q) s.heap H locs → ∀ ls : Array Slot, lv_has ls 4 [(3, .int (nI (5 * kk))), (0, .ref b), (1, .ref h), (2, .ref x)] → W p l e room_1 s m #[Value.ref b] below meth c H locs 24 525 (lw_Z below #[Value.ref b] s) (F0 m 587 ls []) := by
  obtain ⟨hx, hb, hr, hml, hown, hts, hX, hbl, hlocks, hgv⟩ := C0
  have htl : ∀ w ∈ wsL_law, w.before #[Value.ref b] s = true := fun w hw => hts w (wsL_law_in w hw)
  have hA : ∀ q : Nat, s.heap.size ≤ q → (fun q : Nat => s.heap.size ≤ q) q := fun _ h => h
  have hbA : ¬ (fun q : Nat => s.heap.size ≤ q) b := Nat.not_le.mpr hbl
  intro H locs hP hD hS ls hl
  refine lv_aload_n hx hb dL_law_587 rfl (lv_at hl 2 rfl) ?_
  refine lv_aload_n hx hb dL_law_588 rfl (lv_at hl 1 rfl) ?_
  refine lv_iload_n hx hb dL_law_589 rfl (lv_at hl 0 rfl) ?_
  refine lv_iconst (v := nI 1) hx hb dL_law_590 (by decide) ?_
  refine pw_iadd hx hb dL_law_591 ?_
  refine pw_sld hx hb hX hbl hbA hS (show (5 * kk) + 1 < L by omega) (by omega) dL_law_592 ?_
  refine lv_aload_n hx hb dL_law_593 rfl (lv_at hl 1 rfl) ?_
  refine lv_iload_n hx hb dL_law_594 rfl (lv_at hl 0 rfl) ?_
  refine lv_iconst (v := nI 2) hx hb dL_law_595 (by decide) ?_
  refine pw_iadd hx hb dL_law_596 ?_
  refine pw_sld hx hb hX hbl hbA hS (show (5 * kk) + 2 < L by omega) (by omega) dL_law_597 ?_
  refine lv_aload_n hx hb dL_law_598 rfl (lv_at hl 1 rfl) ?_
  refine lv_iload_n hx hb dL_law_599 rfl (lv_at hl 0 rfl) ?_
  refine lv_iconst (v := nI 3) hx hb dL_law_600 (by decide) ?_
  refine pw_iadd hx hb dL_law_601 ?_
  refine pw_sld hx hb hX hbl hbA hS (show (5 * kk) + 3 < L by omega) (by omega) dL_law_602 ?_
  obtain ⟨r, md2, rc2, RF2, cr2, T2, Z2, pg2, R2, P2, Hd2, HA2, Lo2, Ol2, AS2, hR2, hC, hM⟩ := sim_lose (l := l) (D := D) (cI := cI) (cP := cP) (cR := cR) (h := h) (qr := qr) (qp := qp) (ro := ro) (ao := ao) (po := po) (x := x) (t := t) (z := z) (rf := rf) (rwa := rwa) (pl := pl) (hd := hd) (ha := ha) (lo := lo) (ol := ol) (asa := asa) (AS := AS) (by omega) hro hR (xs ((5 * kk) + 1)) (xs ((5 * kk) + 2)) (xs ((5 * kk) + 3))
  refine pw_cVm (Ts := wsL_law) (own := RL) (C := RX2) (As := [.int (xs ((5 * kk) + 1)), .int (xs ((5 * kk) + 2)), .int (xs ((5 * kk) + 3))]) (rest := []) (wc := cW cI cP cR h qr qp ro ao po md rc cr pg) (wr := mW cI x t z rf rwa pl hd ha lo ol asa md T Z RF R P Hd HA Lo Ol AS) ⟨hx, hb, hml, hown, htl⟩ hC (cwV 3 htl gL_law_X2_lose rfl rfl rfl (by decide +kernel) ⟨Nat.le_of_ble_eq_true rfl, Nat.le_of_ble_eq_true rfl⟩) hK hP hD hS hA [0, 1, 2, 3, 4, 5, 6, 7, 8, 9, 10, 11, 12] [13, 14, 15, 16, 17, 18, 19, 20, 21, 22, 23] rfl rfl (by decide) (by decide) (by decide) 0 (ci := 2) rfl rfl rfl rfl hl.1 rfl (Nat.le_of_ble_eq_true rfl) dL_law_603 ⟨Nat.le_of_ble_eq_true rfl, Nat.le_of_ble_eq_true rfl⟩ (fun v1 w1 H locs hq hP hD hS => ?_)
  obtain ⟨rfl, rfl⟩ := hq
  refine W.eq (g2 := F0 m 606 ls [.int (r)]) rfl ?_
  refine lv_aload_n hx hb dL_law_606 rfl (lv_at hl 3 rfl) ?_
  refine lv_aload_n hx hb dL_law_607 rfl (lv_at hl 1 rfl) ?_
  refine lv_iload_n hx hb dL_law_608 rfl (lv_at hl 0 rfl) ?_
  refine lv_iconst (v := nI 1) hx hb dL_law_609 (by decide) ?_
  refine pw_iadd hx hb dL_law_610 ?_
  refine pw_sld hx hb hX hbl hbA hS (show (5 * kk) + 1 < L by omega) (by omega) dL_law_611 ?_
  refine lv_aload_n hx hb dL_law_612 rfl (lv_at hl 1 rfl) ?_
  refine lv_iload_n hx hb dL_law_613 rfl (lv_at hl 0 rfl) ?_
  refine lv_iconst (v := nI 2) hx hb dL_law_614 (by decide) ?_
  refine pw_iadd hx hb dL_law_615 ?_
  refine pw_sld hx hb hX hbl hbA hS (show (5 * kk) + 2 < L by omega) (by omega) dL_law_616 ?_
  refine lv_aload_n hx hb dL_law_617 rfl (lv_at hl 1 rfl) ?_
  refine lv_iload_n hx hb dL_law_618 rfl (lv_at hl 0 rfl) ?_
  refine lv_iconst (v := nI 3) hx hb dL_law_619 (by decide) ?_
  refine pw_iadd hx hb dL_law_620 ?_
  refine pw_sld hx hb hX hbl hbA hS (show (5 * kk) + 3 < L by omega) (by omega) dL_law_621 ?_
  refine pw_cVm (Ts := wsL_law) (own := RL) (C := RX3) (As := [.int (xs ((5 * kk) + 1)), .int (xs ((5 * kk) + 2)), .int (xs ((5 * kk) + 3))]) (rest := [.int (r)]) (wc := mW cI x t z rf rwa pl hd ha lo ol asa md T Z RF R P Hd HA Lo Ol AS) (wr := cW cI cP cR h qr qp ro ao po md2 rc2 cr2 pg2) ⟨hx, hb, hml, hown, htl⟩ hM (cwV 3 htl gL_law_X3_lose rfl rfl rfl (by decide +kernel) ⟨Nat.le_of_ble_eq_true rfl, Nat.le_of_ble_eq_true rfl⟩) hK hP hD hS hA [0, 1, 2, 3, 4, 5, 6, 7, 8, 9, 10] [11, 12, 13, 14, 15, 16, 17, 18, 19, 20, 21, 22, 23] rfl rfl (by decide) (by decide) (by decide) 0 (ci := 3) rfl rfl rfl rfl hl.1 rfl (Nat.le_of_ble_eq_true rfl) dL_law_622 ⟨Nat.le_of_ble_eq_true rfl, Nat.le_of_ble_eq_true rfl⟩ (fun v1 w1 H locs hq hP hD hS => ?_)
  obtain ⟨rfl, rfl⟩ := hq
  refine W.eq (g2 := F0 m 625 ls [.int (r), .int (r)]) rfl ?_
  refine lv_icmp_eq (tgt := 1111) hx hb dL_law_625 (by decide) (fun c_1 => ?_) (fun c_1 => ?_)
  · have _h := c_1
    exact cont md2 rc2 RF2 cr2 T2 Z2 pg2 R2 P2 Hd2 HA2 Lo2 Ol2 AS2 hR2 H locs hP hD hS ls hl
  · exact absurd rfl c_1
set_option maxHeartbeats 4000000 in
set_option maxRecDepth 100000 in
theorem lc_all (hL : L ≤ 2560) (C0 : lw_At p s m meth c b L xs) (hK : pw_K D cI cP cR s) (hro : ∀ i j, i < 3 → j < 3 → ro i = ro j → i = j) (h5 : 5 * kk + 5 ≤ L) (hR : Rel kk md rc RF cr T Z pg R P Hd HA Lo Ol) (cont : ∀ (md2 : Nat) (rc2 RF2 : Nat → Int32) (cr2 : Nat → Nat × Nat × (Nat → Int32)) (T2 : Nat → Nat → Int32) (Z2 : Nat → Nat) (pg2 : Nat → PgT) (R2 P2 Hd2 HA2 Lo2 Ol2 AS2 : Nat → Int32), Rel (kk + 1) md2 rc2 RF2 cr2 T2 Z2 pg2 R2 P2 Hd2 HA2 Lo2 Ol2 → ∀ (H : Heap) (locs : List Loc), va_P D vwCl (cW cI cP cR h qr qp ro ao po md2 rc2 cr2 pg2 ++ mW cI x t z rf rwa pl hd ha lo ol asa md2 T2 Z2 RF2 R2 P2 Hd2 HA2 Lo2 Ol2 AS2) H → va_D (fun q : Nat => s.heap.size ≤ q) (cW cI cP cR h qr qp ro ao po md2 rc2 cr2 pg2 ++ mW cI x t z rf rwa pl hd ha lo ol asa md2 T2 Z2 RF2 R2 P2 Hd2 HA2 Lo2 Ol2 AS2) → va_S (fun q : Nat => s.heap.size ≤ q) s.heap H locs → ∀ ls : Array Slot, lv_has ls 4 [(3, .int (nI (5 * kk))), (0, .ref b), (1, .ref h), (2, .ref x)] → W p l e room_1 s m #[Value.ref b] below meth c H locs 24 525 (lw_Z below #[Value.ref b] s) (F0 m 1111 ls [])) : ∀ (H : Heap) (locs : List Loc), va_P D vwCl (cW cI cP cR h qr qp ro ao po md rc cr pg ++ mW cI x t z rf rwa pl hd ha lo ol asa md T Z RF R P Hd HA Lo Ol AS) H → va_D (fun q : Nat => s.heap.size ≤ q) (cW cI cP cR h qr qp ro ao po md rc cr pg ++ mW cI x t z rf rwa pl hd ha lo ol asa md T Z RF R P Hd HA Lo Ol AS) → va_S (fun q : Nat => s.heap.size ≤ q) s.heap H locs → ∀ ls : Array Slot, lv_has ls 4 [(3, .int (nI (5 * kk))), (0, .ref b), (1, .ref h), (2, .ref x)] → W p l e room_1 s m #[Value.ref b] below meth c H locs 24 525 (lw_Z below #[Value.ref b] s) (F0 m 630 ls []) := by
  obtain ⟨hx, hb, hr, hml, hown, hts, hX, hbl, hlocks, hgv⟩ := C0
  have htl : ∀ w ∈ wsL_law, w.before #[Value.ref b] s = true := fun w hw => hts w (wsL_law_in w hw)
  have hA : ∀ q : Nat, s.heap.size ≤ q → (fun q : Nat => s.heap.size ≤ q) q := fun _ h => h
  have hbA : ¬ (fun q : Nat => s.heap.size ≤ q) b := Nat.not_le.mpr hbl
  intro H locs hP hD hS ls hl
  refine lv_aload_n hx hb dL_law_630 rfl (lv_at hl 2 rfl) ?_
  refine lv_aload_n hx hb dL_law_631 rfl (lv_at hl 1 rfl) ?_
  refine lv_iload_n hx hb dL_law_632 rfl (lv_at hl 0 rfl) ?_
  refine lv_iconst (v := nI 1) hx hb dL_law_633 (by decide) ?_
  refine pw_iadd hx hb dL_law_634 ?_
  refine pw_sld hx hb hX hbl hbA hS (show (5 * kk) + 1 < L by omega) (by omega) dL_law_635 ?_
  refine lv_aload_n hx hb dL_law_636 rfl (lv_at hl 1 rfl) ?_
  refine lv_iload_n hx hb dL_law_637 rfl (lv_at hl 0 rfl) ?_
  refine lv_iconst (v := nI 2) hx hb dL_law_638 (by decide) ?_
  refine pw_iadd hx hb dL_law_639 ?_
  refine pw_sld hx hb hX hbl hbA hS (show (5 * kk) + 2 < L by omega) (by omega) dL_law_640 ?_
  refine lv_aload_n hx hb dL_law_641 rfl (lv_at hl 1 rfl) ?_
  refine lv_iload_n hx hb dL_law_642 rfl (lv_at hl 0 rfl) ?_
  refine lv_iconst (v := nI 3) hx hb dL_law_643 (by decide) ?_
  refine pw_iadd hx hb dL_law_644 ?_
  refine pw_sld hx hb hX hbl hbA hS (show (5 * kk) + 3 < L by omega) (by omega) dL_law_645 ?_
  obtain ⟨r, md2, rc2, RF2, cr2, T2, Z2, pg2, R2, P2, Hd2, HA2, Lo2, Ol2, AS2, hR2, hC, hM⟩ := sim_all (l := l) (D := D) (cI := cI) (cP := cP) (cR := cR) (h := h) (qr := qr) (qp := qp) (ro := ro) (ao := ao) (po := po) (x := x) (t := t) (z := z) (rf := rf) (rwa := rwa) (pl := pl) (hd := hd) (ha := ha) (lo := lo) (ol := ol) (asa := asa) (AS := AS) (by omega) hro hR (xs ((5 * kk) + 1)) (xs ((5 * kk) + 2)) (xs ((5 * kk) + 3))
  refine pw_cVm (Ts := wsL_law) (own := RL) (C := RX2) (As := [.int (xs ((5 * kk) + 1)), .int (xs ((5 * kk) + 2)), .int (xs ((5 * kk) + 3))]) (rest := []) (wc := cW cI cP cR h qr qp ro ao po md rc cr pg) (wr := mW cI x t z rf rwa pl hd ha lo ol asa md T Z RF R P Hd HA Lo Ol AS) ⟨hx, hb, hml, hown, htl⟩ hC (cwV 3 htl gL_law_X2_all rfl rfl rfl (by decide +kernel) ⟨Nat.le_of_ble_eq_true rfl, Nat.le_of_ble_eq_true rfl⟩) hK hP hD hS hA [0, 1, 2, 3, 4, 5, 6, 7, 8, 9, 10, 11, 12] [13, 14, 15, 16, 17, 18, 19, 20, 21, 22, 23] rfl rfl (by decide) (by decide) (by decide) 0 (ci := 2) rfl rfl rfl rfl hl.1 rfl (Nat.le_of_ble_eq_true rfl) dL_law_646 ⟨Nat.le_of_ble_eq_true rfl, Nat.le_of_ble_eq_true rfl⟩ (fun v1 w1 H locs hq hP hD hS => ?_)
  obtain ⟨rfl, rfl⟩ := hq
  refine W.eq (g2 := F0 m 649 ls [.int (r)]) rfl ?_
  refine lv_aload_n hx hb dL_law_649 rfl (lv_at hl 3 rfl) ?_
  refine lv_aload_n hx hb dL_law_650 rfl (lv_at hl 1 rfl) ?_
  refine lv_iload_n hx hb dL_law_651 rfl (lv_at hl 0 rfl) ?_
  refine lv_iconst (v := nI 1) hx hb dL_law_652 (by decide) ?_
  refine pw_iadd hx hb dL_law_653 ?_
  refine pw_sld hx hb hX hbl hbA hS (show (5 * kk) + 1 < L by omega) (by omega) dL_law_654 ?_
  refine lv_aload_n hx hb dL_law_655 rfl (lv_at hl 1 rfl) ?_
  refine lv_iload_n hx hb dL_law_656 rfl (lv_at hl 0 rfl) ?_
  refine lv_iconst (v := nI 2) hx hb dL_law_657 (by decide) ?_
  refine pw_iadd hx hb dL_law_658 ?_
  refine pw_sld hx hb hX hbl hbA hS (show (5 * kk) + 2 < L by omega) (by omega) dL_law_659 ?_
  refine lv_aload_n hx hb dL_law_660 rfl (lv_at hl 1 rfl) ?_
  refine lv_iload_n hx hb dL_law_661 rfl (lv_at hl 0 rfl) ?_
  refine lv_iconst (v := nI 3) hx hb dL_law_662 (by decide) ?_
  refine pw_iadd hx hb dL_law_663 ?_
  refine pw_sld hx hb hX hbl hbA hS (show (5 * kk) + 3 < L by omega) (by omega) dL_law_664 ?_
  refine pw_cVm (Ts := wsL_law) (own := RL) (C := RX3) (As := [.int (xs ((5 * kk) + 1)), .int (xs ((5 * kk) + 2)), .int (xs ((5 * kk) + 3))]) (rest := [.int (r)]) (wc := mW cI x t z rf rwa pl hd ha lo ol asa md T Z RF R P Hd HA Lo Ol AS) (wr := cW cI cP cR h qr qp ro ao po md2 rc2 cr2 pg2) ⟨hx, hb, hml, hown, htl⟩ hM (cwV 3 htl gL_law_X3_all rfl rfl rfl (by decide +kernel) ⟨Nat.le_of_ble_eq_true rfl, Nat.le_of_ble_eq_true rfl⟩) hK hP hD hS hA [0, 1, 2, 3, 4, 5, 6, 7, 8, 9, 10] [11, 12, 13, 14, 15, 16, 17, 18, 19, 20, 21, 22, 23] rfl rfl (by decide) (by decide) (by decide) 0 (ci := 3) rfl rfl rfl rfl hl.1 rfl (Nat.le_of_ble_eq_true rfl) dL_law_665 ⟨Nat.le_of_ble_eq_true rfl, Nat.le_of_ble_eq_true rfl⟩ (fun v1 w1 H locs hq hP hD hS => ?_)
  obtain ⟨rfl, rfl⟩ := hq
  refine W.eq (g2 := F0 m 668 ls [.int (r), .int (r)]) rfl ?_
  refine lv_icmp_eq (tgt := 1111) hx hb dL_law_668 (by decide) (fun c_1 => ?_) (fun c_1 => ?_)
  · have _h := c_1
    exact cont md2 rc2 RF2 cr2 T2 Z2 pg2 R2 P2 Hd2 HA2 Lo2 Ol2 AS2 hR2 H locs hP hD hS ls hl
  · exact absurd rfl c_1
set_option maxHeartbeats 4000000 in
set_option maxRecDepth 100000 in
theorem lc_clear (hL : L ≤ 2560) (C0 : lw_At p s m meth c b L xs) (hK : pw_K D cI cP cR s) (hro : ∀ i j, i < 3 → j < 3 → ro i = ro j → i = j) (h5 : 5 * kk + 5 ≤ L) (hR : Rel kk md rc RF cr T Z pg R P Hd HA Lo Ol) (cont : ∀ (md2 : Nat) (rc2 RF2 : Nat → Int32) (cr2 : Nat → Nat × Nat × (Nat → Int32)) (T2 : Nat → Nat → Int32) (Z2 : Nat → Nat) (pg2 : Nat → PgT) (R2 P2 Hd2 HA2 Lo2 Ol2 AS2 : Nat → Int32), Rel (kk + 1) md2 rc2 RF2 cr2 T2 Z2 pg2 R2 P2 Hd2 HA2 Lo2 Ol2 → ∀ (H : Heap) (locs : List Loc), va_P D vwCl (cW cI cP cR h qr qp ro ao po md2 rc2 cr2 pg2 ++ mW cI x t z rf rwa pl hd ha lo ol asa md2 T2 Z2 RF2 R2 P2 Hd2 HA2 Lo2 Ol2 AS2) H → va_D (fun q : Nat => s.heap.size ≤ q) (cW cI cP cR h qr qp ro ao po md2 rc2 cr2 pg2 ++ mW cI x t z rf rwa pl hd ha lo ol asa md2 T2 Z2 RF2 R2 P2 Hd2 HA2 Lo2 Ol2 AS2) → va_S (fun q : Nat => s.heap.size ≤ q) s.heap H locs → ∀ ls : Array Slot, lv_has ls 4 [(3, .int (nI (5 * kk))), (0, .ref b), (1, .ref h), (2, .ref x)] → W p l e room_1 s m #[Value.ref b] below meth c H locs 24 525 (lw_Z below #[Value.ref b] s) (F0 m 1111 ls [])) : ∀ (H : Heap) (locs : List Loc), va_P D vwCl (cW cI cP cR h qr qp ro ao po md rc cr pg ++ mW cI x t z rf rwa pl hd ha lo ol asa md T Z RF R P Hd HA Lo Ol AS) H → va_D (fun q : Nat => s.heap.size ≤ q) (cW cI cP cR h qr qp ro ao po md rc cr pg ++ mW cI x t z rf rwa pl hd ha lo ol asa md T Z RF R P Hd HA Lo Ol AS) → va_S (fun q : Nat => s.heap.size ≤ q) s.heap H locs → ∀ ls : Array Slot, lv_has ls 4 [(3, .int (nI (5 * kk))), (0, .ref b), (1, .ref h), (2, .ref x)] → W p l e room_1 s m #[Value.ref b] below meth c H locs 24 525 (lw_Z below #[Value.ref b] s) (F0 m 673 ls []) := by
  obtain ⟨hx, hb, hr, hml, hown, hts, hX, hbl, hlocks, hgv⟩ := C0
  have htl : ∀ w ∈ wsL_law, w.before #[Value.ref b] s = true := fun w hw => hts w (wsL_law_in w hw)
  have hA : ∀ q : Nat, s.heap.size ≤ q → (fun q : Nat => s.heap.size ≤ q) q := fun _ h => h
  have hbA : ¬ (fun q : Nat => s.heap.size ≤ q) b := Nat.not_le.mpr hbl
  intro H locs hP hD hS ls hl
  refine lv_aload_n hx hb dL_law_673 rfl (lv_at hl 2 rfl) ?_
  refine lv_aload_n hx hb dL_law_674 rfl (lv_at hl 1 rfl) ?_
  refine lv_iload_n hx hb dL_law_675 rfl (lv_at hl 0 rfl) ?_
  refine lv_iconst (v := nI 1) hx hb dL_law_676 (by decide) ?_
  refine pw_iadd hx hb dL_law_677 ?_
  refine pw_sld hx hb hX hbl hbA hS (show (5 * kk) + 1 < L by omega) (by omega) dL_law_678 ?_
  obtain ⟨r, md2, rc2, RF2, cr2, T2, Z2, pg2, R2, P2, Hd2, HA2, Lo2, Ol2, AS2, hR2, hC, hM⟩ := sim_clear (l := l) (D := D) (cI := cI) (cP := cP) (cR := cR) (h := h) (qr := qr) (qp := qp) (ro := ro) (ao := ao) (po := po) (x := x) (t := t) (z := z) (rf := rf) (rwa := rwa) (pl := pl) (hd := hd) (ha := ha) (lo := lo) (ol := ol) (asa := asa) (AS := AS) (by omega) hro hR (xs ((5 * kk) + 1))
  refine pw_cVm (Ts := wsL_law) (own := RL) (C := RX2) (As := [.int (xs ((5 * kk) + 1))]) (rest := []) (wc := cW cI cP cR h qr qp ro ao po md rc cr pg) (wr := mW cI x t z rf rwa pl hd ha lo ol asa md T Z RF R P Hd HA Lo Ol AS) ⟨hx, hb, hml, hown, htl⟩ hC (cwV 1 htl gL_law_X2_clear rfl rfl rfl (by decide +kernel) ⟨Nat.le_of_ble_eq_true rfl, Nat.le_of_ble_eq_true rfl⟩) hK hP hD hS hA [0, 1, 2, 3, 4, 5, 6, 7, 8, 9, 10, 11, 12] [13, 14, 15, 16, 17, 18, 19, 20, 21, 22, 23] rfl rfl (by decide) (by decide) (by decide) 0 (ci := 2) rfl rfl rfl rfl hl.1 rfl (Nat.le_of_ble_eq_true rfl) dL_law_679 ⟨Nat.le_of_ble_eq_true rfl, Nat.le_of_ble_eq_true rfl⟩ (fun v1 w1 H locs hq hP hD hS => ?_)
  obtain ⟨rfl, rfl⟩ := hq
  refine W.eq (g2 := F0 m 682 ls [.int (r)]) rfl ?_
  refine lv_aload_n hx hb dL_law_682 rfl (lv_at hl 3 rfl) ?_
  refine lv_aload_n hx hb dL_law_683 rfl (lv_at hl 1 rfl) ?_
  refine lv_iload_n hx hb dL_law_684 rfl (lv_at hl 0 rfl) ?_
  refine lv_iconst (v := nI 1) hx hb dL_law_685 (by decide) ?_
  refine pw_iadd hx hb dL_law_686 ?_
  refine pw_sld hx hb hX hbl hbA hS (show (5 * kk) + 1 < L by omega) (by omega) dL_law_687 ?_
  refine pw_cVm (Ts := wsL_law) (own := RL) (C := RX3) (As := [.int (xs ((5 * kk) + 1))]) (rest := [.int (r)]) (wc := mW cI x t z rf rwa pl hd ha lo ol asa md T Z RF R P Hd HA Lo Ol AS) (wr := cW cI cP cR h qr qp ro ao po md2 rc2 cr2 pg2) ⟨hx, hb, hml, hown, htl⟩ hM (cwV 1 htl gL_law_X3_clear rfl rfl rfl (by decide +kernel) ⟨Nat.le_of_ble_eq_true rfl, Nat.le_of_ble_eq_true rfl⟩) hK hP hD hS hA [0, 1, 2, 3, 4, 5, 6, 7, 8, 9, 10] [11, 12, 13, 14, 15, 16, 17, 18, 19, 20, 21, 22, 23] rfl rfl (by decide) (by decide) (by decide) 0 (ci := 3) rfl rfl rfl rfl hl.1 rfl (Nat.le_of_ble_eq_true rfl) dL_law_688 ⟨Nat.le_of_ble_eq_true rfl, Nat.le_of_ble_eq_true rfl⟩ (fun v1 w1 H locs hq hP hD hS => ?_)
  obtain ⟨rfl, rfl⟩ := hq
  refine W.eq (g2 := F0 m 691 ls [.int (r), .int (r)]) rfl ?_
  refine lv_icmp_eq (tgt := 1111) hx hb dL_law_691 (by decide) (fun c_1 => ?_) (fun c_1 => ?_)
  · have _h := c_1
    exact cont md2 rc2 RF2 cr2 T2 Z2 pg2 R2 P2 Hd2 HA2 Lo2 Ol2 AS2 hR2 H locs hP hD hS ls hl
  · exact absurd rfl c_1
set_option maxHeartbeats 4000000 in
set_option maxRecDepth 100000 in
theorem lc_copy (hL : L ≤ 2560) (C0 : lw_At p s m meth c b L xs) (hK : pw_K D cI cP cR s) (hro : ∀ i j, i < 3 → j < 3 → ro i = ro j → i = j) (h5 : 5 * kk + 5 ≤ L) (hR : Rel kk md rc RF cr T Z pg R P Hd HA Lo Ol) (cont : ∀ (md2 : Nat) (rc2 RF2 : Nat → Int32) (cr2 : Nat → Nat × Nat × (Nat → Int32)) (T2 : Nat → Nat → Int32) (Z2 : Nat → Nat) (pg2 : Nat → PgT) (R2 P2 Hd2 HA2 Lo2 Ol2 AS2 : Nat → Int32), Rel (kk + 1) md2 rc2 RF2 cr2 T2 Z2 pg2 R2 P2 Hd2 HA2 Lo2 Ol2 → ∀ (H : Heap) (locs : List Loc), va_P D vwCl (cW cI cP cR h qr qp ro ao po md2 rc2 cr2 pg2 ++ mW cI x t z rf rwa pl hd ha lo ol asa md2 T2 Z2 RF2 R2 P2 Hd2 HA2 Lo2 Ol2 AS2) H → va_D (fun q : Nat => s.heap.size ≤ q) (cW cI cP cR h qr qp ro ao po md2 rc2 cr2 pg2 ++ mW cI x t z rf rwa pl hd ha lo ol asa md2 T2 Z2 RF2 R2 P2 Hd2 HA2 Lo2 Ol2 AS2) → va_S (fun q : Nat => s.heap.size ≤ q) s.heap H locs → ∀ ls : Array Slot, lv_has ls 4 [(3, .int (nI (5 * kk))), (0, .ref b), (1, .ref h), (2, .ref x)] → W p l e room_1 s m #[Value.ref b] below meth c H locs 24 525 (lw_Z below #[Value.ref b] s) (F0 m 1111 ls [])) : ∀ (H : Heap) (locs : List Loc), va_P D vwCl (cW cI cP cR h qr qp ro ao po md rc cr pg ++ mW cI x t z rf rwa pl hd ha lo ol asa md T Z RF R P Hd HA Lo Ol AS) H → va_D (fun q : Nat => s.heap.size ≤ q) (cW cI cP cR h qr qp ro ao po md rc cr pg ++ mW cI x t z rf rwa pl hd ha lo ol asa md T Z RF R P Hd HA Lo Ol AS) → va_S (fun q : Nat => s.heap.size ≤ q) s.heap H locs → ∀ ls : Array Slot, lv_has ls 4 [(3, .int (nI (5 * kk))), (0, .ref b), (1, .ref h), (2, .ref x)] → W p l e room_1 s m #[Value.ref b] below meth c H locs 24 525 (lw_Z below #[Value.ref b] s) (F0 m 696 ls []) := by
  obtain ⟨hx, hb, hr, hml, hown, hts, hX, hbl, hlocks, hgv⟩ := C0
  have htl : ∀ w ∈ wsL_law, w.before #[Value.ref b] s = true := fun w hw => hts w (wsL_law_in w hw)
  have hA : ∀ q : Nat, s.heap.size ≤ q → (fun q : Nat => s.heap.size ≤ q) q := fun _ h => h
  have hbA : ¬ (fun q : Nat => s.heap.size ≤ q) b := Nat.not_le.mpr hbl
  intro H locs hP hD hS ls hl
  refine lv_aload_n hx hb dL_law_696 rfl (lv_at hl 2 rfl) ?_
  refine lv_aload_n hx hb dL_law_697 rfl (lv_at hl 1 rfl) ?_
  refine lv_iload_n hx hb dL_law_698 rfl (lv_at hl 0 rfl) ?_
  refine lv_iconst (v := nI 1) hx hb dL_law_699 (by decide) ?_
  refine pw_iadd hx hb dL_law_700 ?_
  refine pw_sld hx hb hX hbl hbA hS (show (5 * kk) + 1 < L by omega) (by omega) dL_law_701 ?_
  refine lv_aload_n hx hb dL_law_702 rfl (lv_at hl 1 rfl) ?_
  refine lv_iload_n hx hb dL_law_703 rfl (lv_at hl 0 rfl) ?_
  refine lv_iconst (v := nI 2) hx hb dL_law_704 (by decide) ?_
  refine pw_iadd hx hb dL_law_705 ?_
  refine pw_sld hx hb hX hbl hbA hS (show (5 * kk) + 2 < L by omega) (by omega) dL_law_706 ?_
  obtain ⟨r, md2, rc2, RF2, cr2, T2, Z2, pg2, R2, P2, Hd2, HA2, Lo2, Ol2, AS2, hR2, hC, hM⟩ := sim_copy (l := l) (D := D) (cI := cI) (cP := cP) (cR := cR) (h := h) (qr := qr) (qp := qp) (ro := ro) (ao := ao) (po := po) (x := x) (t := t) (z := z) (rf := rf) (rwa := rwa) (pl := pl) (hd := hd) (ha := ha) (lo := lo) (ol := ol) (asa := asa) (AS := AS) (by omega) hro hR (xs ((5 * kk) + 1)) (xs ((5 * kk) + 2))
  refine pw_cVm (Ts := wsL_law) (own := RL) (C := RX2) (As := [.int (xs ((5 * kk) + 1)), .int (xs ((5 * kk) + 2))]) (rest := []) (wc := cW cI cP cR h qr qp ro ao po md rc cr pg) (wr := mW cI x t z rf rwa pl hd ha lo ol asa md T Z RF R P Hd HA Lo Ol AS) ⟨hx, hb, hml, hown, htl⟩ hC (cwV 2 htl gL_law_X2_copy rfl rfl rfl (by decide +kernel) ⟨Nat.le_of_ble_eq_true rfl, Nat.le_of_ble_eq_true rfl⟩) hK hP hD hS hA [0, 1, 2, 3, 4, 5, 6, 7, 8, 9, 10, 11, 12] [13, 14, 15, 16, 17, 18, 19, 20, 21, 22, 23] rfl rfl (by decide) (by decide) (by decide) 0 (ci := 2) rfl rfl rfl rfl hl.1 rfl (Nat.le_of_ble_eq_true rfl) dL_law_707 ⟨Nat.le_of_ble_eq_true rfl, Nat.le_of_ble_eq_true rfl⟩ (fun v1 w1 H locs hq hP hD hS => ?_)
  obtain ⟨rfl, rfl⟩ := hq
  refine W.eq (g2 := F0 m 710 ls [.int (r)]) rfl ?_
  refine lv_aload_n hx hb dL_law_710 rfl (lv_at hl 3 rfl) ?_
  refine lv_aload_n hx hb dL_law_711 rfl (lv_at hl 1 rfl) ?_
  refine lv_iload_n hx hb dL_law_712 rfl (lv_at hl 0 rfl) ?_
  refine lv_iconst (v := nI 1) hx hb dL_law_713 (by decide) ?_
  refine pw_iadd hx hb dL_law_714 ?_
  refine pw_sld hx hb hX hbl hbA hS (show (5 * kk) + 1 < L by omega) (by omega) dL_law_715 ?_
  refine lv_aload_n hx hb dL_law_716 rfl (lv_at hl 1 rfl) ?_
  refine lv_iload_n hx hb dL_law_717 rfl (lv_at hl 0 rfl) ?_
  refine lv_iconst (v := nI 2) hx hb dL_law_718 (by decide) ?_
  refine pw_iadd hx hb dL_law_719 ?_
  refine pw_sld hx hb hX hbl hbA hS (show (5 * kk) + 2 < L by omega) (by omega) dL_law_720 ?_
  refine pw_cVm (Ts := wsL_law) (own := RL) (C := RX3) (As := [.int (xs ((5 * kk) + 1)), .int (xs ((5 * kk) + 2))]) (rest := [.int (r)]) (wc := mW cI x t z rf rwa pl hd ha lo ol asa md T Z RF R P Hd HA Lo Ol AS) (wr := cW cI cP cR h qr qp ro ao po md2 rc2 cr2 pg2) ⟨hx, hb, hml, hown, htl⟩ hM (cwV 2 htl gL_law_X3_copy rfl rfl rfl (by decide +kernel) ⟨Nat.le_of_ble_eq_true rfl, Nat.le_of_ble_eq_true rfl⟩) hK hP hD hS hA [0, 1, 2, 3, 4, 5, 6, 7, 8, 9, 10] [11, 12, 13, 14, 15, 16, 17, 18, 19, 20, 21, 22, 23] rfl rfl (by decide) (by decide) (by decide) 0 (ci := 3) rfl rfl rfl rfl hl.1 rfl (Nat.le_of_ble_eq_true rfl) dL_law_721 ⟨Nat.le_of_ble_eq_true rfl, Nat.le_of_ble_eq_true rfl⟩ (fun v1 w1 H locs hq hP hD hS => ?_)
  obtain ⟨rfl, rfl⟩ := hq
  refine W.eq (g2 := F0 m 724 ls [.int (r), .int (r)]) rfl ?_
  refine lv_icmp_eq (tgt := 1111) hx hb dL_law_724 (by decide) (fun c_1 => ?_) (fun c_1 => ?_)
  · have _h := c_1
    exact cont md2 rc2 RF2 cr2 T2 Z2 pg2 R2 P2 Hd2 HA2 Lo2 Ol2 AS2 hR2 H locs hP hD hS ls hl
  · exact absurd rfl c_1
set_option maxHeartbeats 4000000 in
set_option maxRecDepth 100000 in
theorem lc_turn (hL : L ≤ 2560) (C0 : lw_At p s m meth c b L xs) (hK : pw_K D cI cP cR s) (hro : ∀ i j, i < 3 → j < 3 → ro i = ro j → i = j) (h5 : 5 * kk + 5 ≤ L) (hR : Rel kk md rc RF cr T Z pg R P Hd HA Lo Ol) (cont : ∀ (md2 : Nat) (rc2 RF2 : Nat → Int32) (cr2 : Nat → Nat × Nat × (Nat → Int32)) (T2 : Nat → Nat → Int32) (Z2 : Nat → Nat) (pg2 : Nat → PgT) (R2 P2 Hd2 HA2 Lo2 Ol2 AS2 : Nat → Int32), Rel (kk + 1) md2 rc2 RF2 cr2 T2 Z2 pg2 R2 P2 Hd2 HA2 Lo2 Ol2 → ∀ (H : Heap) (locs : List Loc), va_P D vwCl (cW cI cP cR h qr qp ro ao po md2 rc2 cr2 pg2 ++ mW cI x t z rf rwa pl hd ha lo ol asa md2 T2 Z2 RF2 R2 P2 Hd2 HA2 Lo2 Ol2 AS2) H → va_D (fun q : Nat => s.heap.size ≤ q) (cW cI cP cR h qr qp ro ao po md2 rc2 cr2 pg2 ++ mW cI x t z rf rwa pl hd ha lo ol asa md2 T2 Z2 RF2 R2 P2 Hd2 HA2 Lo2 Ol2 AS2) → va_S (fun q : Nat => s.heap.size ≤ q) s.heap H locs → ∀ ls : Array Slot, lv_has ls 4 [(3, .int (nI (5 * kk))), (0, .ref b), (1, .ref h), (2, .ref x)] → W p l e room_1 s m #[Value.ref b] below meth c H locs 24 525 (lw_Z below #[Value.ref b] s) (F0 m 1111 ls [])) : ∀ (H : Heap) (locs : List Loc), va_P D vwCl (cW cI cP cR h qr qp ro ao po md rc cr pg ++ mW cI x t z rf rwa pl hd ha lo ol asa md T Z RF R P Hd HA Lo Ol AS) H → va_D (fun q : Nat => s.heap.size ≤ q) (cW cI cP cR h qr qp ro ao po md rc cr pg ++ mW cI x t z rf rwa pl hd ha lo ol asa md T Z RF R P Hd HA Lo Ol AS) → va_S (fun q : Nat => s.heap.size ≤ q) s.heap H locs → ∀ ls : Array Slot, lv_has ls 4 [(3, .int (nI (5 * kk))), (0, .ref b), (1, .ref h), (2, .ref x)] → W p l e room_1 s m #[Value.ref b] below meth c H locs 24 525 (lw_Z below #[Value.ref b] s) (F0 m 729 ls []) := by
  obtain ⟨hx, hb, hr, hml, hown, hts, hX, hbl, hlocks, hgv⟩ := C0
  have htl : ∀ w ∈ wsL_law, w.before #[Value.ref b] s = true := fun w hw => hts w (wsL_law_in w hw)
  have hA : ∀ q : Nat, s.heap.size ≤ q → (fun q : Nat => s.heap.size ≤ q) q := fun _ h => h
  have hbA : ¬ (fun q : Nat => s.heap.size ≤ q) b := Nat.not_le.mpr hbl
  intro H locs hP hD hS ls hl
  refine lv_aload_n hx hb dL_law_729 rfl (lv_at hl 2 rfl) ?_
  refine lv_aload_n hx hb dL_law_730 rfl (lv_at hl 1 rfl) ?_
  refine lv_iload_n hx hb dL_law_731 rfl (lv_at hl 0 rfl) ?_
  refine lv_iconst (v := nI 1) hx hb dL_law_732 (by decide) ?_
  refine pw_iadd hx hb dL_law_733 ?_
  refine pw_sld hx hb hX hbl hbA hS (show (5 * kk) + 1 < L by omega) (by omega) dL_law_734 ?_
  obtain ⟨r, md2, rc2, RF2, cr2, T2, Z2, pg2, R2, P2, Hd2, HA2, Lo2, Ol2, AS2, hR2, hC, hM⟩ := sim_turn (l := l) (D := D) (cI := cI) (cP := cP) (cR := cR) (h := h) (qr := qr) (qp := qp) (ro := ro) (ao := ao) (po := po) (x := x) (t := t) (z := z) (rf := rf) (rwa := rwa) (pl := pl) (hd := hd) (ha := ha) (lo := lo) (ol := ol) (asa := asa) (AS := AS) (by omega) hro hR (xs ((5 * kk) + 1))
  refine pw_cVm (Ts := wsL_law) (own := RL) (C := RX2) (As := [.int (xs ((5 * kk) + 1))]) (rest := []) (wc := cW cI cP cR h qr qp ro ao po md rc cr pg) (wr := mW cI x t z rf rwa pl hd ha lo ol asa md T Z RF R P Hd HA Lo Ol AS) ⟨hx, hb, hml, hown, htl⟩ hC (cwV 1 htl gL_law_X2_turn rfl rfl rfl (by decide +kernel) ⟨Nat.le_of_ble_eq_true rfl, Nat.le_of_ble_eq_true rfl⟩) hK hP hD hS hA [0, 1, 2, 3, 4, 5, 6, 7, 8, 9, 10, 11, 12] [13, 14, 15, 16, 17, 18, 19, 20, 21, 22, 23] rfl rfl (by decide) (by decide) (by decide) 0 (ci := 2) rfl rfl rfl rfl hl.1 rfl (Nat.le_of_ble_eq_true rfl) dL_law_735 ⟨Nat.le_of_ble_eq_true rfl, Nat.le_of_ble_eq_true rfl⟩ (fun v1 w1 H locs hq hP hD hS => ?_)
  obtain ⟨rfl, rfl⟩ := hq
  refine W.eq (g2 := F0 m 738 ls [.int (r)]) rfl ?_
  refine lv_aload_n hx hb dL_law_738 rfl (lv_at hl 3 rfl) ?_
  refine lv_aload_n hx hb dL_law_739 rfl (lv_at hl 1 rfl) ?_
  refine lv_iload_n hx hb dL_law_740 rfl (lv_at hl 0 rfl) ?_
  refine lv_iconst (v := nI 1) hx hb dL_law_741 (by decide) ?_
  refine pw_iadd hx hb dL_law_742 ?_
  refine pw_sld hx hb hX hbl hbA hS (show (5 * kk) + 1 < L by omega) (by omega) dL_law_743 ?_
  refine pw_cVm (Ts := wsL_law) (own := RL) (C := RX3) (As := [.int (xs ((5 * kk) + 1))]) (rest := [.int (r)]) (wc := mW cI x t z rf rwa pl hd ha lo ol asa md T Z RF R P Hd HA Lo Ol AS) (wr := cW cI cP cR h qr qp ro ao po md2 rc2 cr2 pg2) ⟨hx, hb, hml, hown, htl⟩ hM (cwV 1 htl gL_law_X3_turn rfl rfl rfl (by decide +kernel) ⟨Nat.le_of_ble_eq_true rfl, Nat.le_of_ble_eq_true rfl⟩) hK hP hD hS hA [0, 1, 2, 3, 4, 5, 6, 7, 8, 9, 10] [11, 12, 13, 14, 15, 16, 17, 18, 19, 20, 21, 22, 23] rfl rfl (by decide) (by decide) (by decide) 0 (ci := 3) rfl rfl rfl rfl hl.1 rfl (Nat.le_of_ble_eq_true rfl) dL_law_744 ⟨Nat.le_of_ble_eq_true rfl, Nat.le_of_ble_eq_true rfl⟩ (fun v1 w1 H locs hq hP hD hS => ?_)
  obtain ⟨rfl, rfl⟩ := hq
  refine W.eq (g2 := F0 m 747 ls [.int (r), .int (r)]) rfl ?_
  refine lv_icmp_eq (tgt := 1111) hx hb dL_law_747 (by decide) (fun c_1 => ?_) (fun c_1 => ?_)
  · have _h := c_1
    exact cont md2 rc2 RF2 cr2 T2 Z2 pg2 R2 P2 Hd2 HA2 Lo2 Ol2 AS2 hR2 H locs hP hD hS ls hl
  · exact absurd rfl c_1
set_option maxHeartbeats 4000000 in
set_option maxRecDepth 100000 in
theorem lc_weave (hL : L ≤ 2560) (C0 : lw_At p s m meth c b L xs) (hK : pw_K D cI cP cR s) (hro : ∀ i j, i < 3 → j < 3 → ro i = ro j → i = j) (h5 : 5 * kk + 5 ≤ L) (hR : Rel kk md rc RF cr T Z pg R P Hd HA Lo Ol) (cont : ∀ (md2 : Nat) (rc2 RF2 : Nat → Int32) (cr2 : Nat → Nat × Nat × (Nat → Int32)) (T2 : Nat → Nat → Int32) (Z2 : Nat → Nat) (pg2 : Nat → PgT) (R2 P2 Hd2 HA2 Lo2 Ol2 AS2 : Nat → Int32), Rel (kk + 1) md2 rc2 RF2 cr2 T2 Z2 pg2 R2 P2 Hd2 HA2 Lo2 Ol2 → ∀ (H : Heap) (locs : List Loc), va_P D vwCl (cW cI cP cR h qr qp ro ao po md2 rc2 cr2 pg2 ++ mW cI x t z rf rwa pl hd ha lo ol asa md2 T2 Z2 RF2 R2 P2 Hd2 HA2 Lo2 Ol2 AS2) H → va_D (fun q : Nat => s.heap.size ≤ q) (cW cI cP cR h qr qp ro ao po md2 rc2 cr2 pg2 ++ mW cI x t z rf rwa pl hd ha lo ol asa md2 T2 Z2 RF2 R2 P2 Hd2 HA2 Lo2 Ol2 AS2) → va_S (fun q : Nat => s.heap.size ≤ q) s.heap H locs → ∀ ls : Array Slot, lv_has ls 4 [(3, .int (nI (5 * kk))), (0, .ref b), (1, .ref h), (2, .ref x)] → W p l e room_1 s m #[Value.ref b] below meth c H locs 24 525 (lw_Z below #[Value.ref b] s) (F0 m 1111 ls [])) : ∀ (H : Heap) (locs : List Loc), va_P D vwCl (cW cI cP cR h qr qp ro ao po md rc cr pg ++ mW cI x t z rf rwa pl hd ha lo ol asa md T Z RF R P Hd HA Lo Ol AS) H → va_D (fun q : Nat => s.heap.size ≤ q) (cW cI cP cR h qr qp ro ao po md rc cr pg ++ mW cI x t z rf rwa pl hd ha lo ol asa md T Z RF R P Hd HA Lo Ol AS) → va_S (fun q : Nat => s.heap.size ≤ q) s.heap H locs → ∀ ls : Array Slot, lv_has ls 4 [(3, .int (nI (5 * kk))), (0, .ref b), (1, .ref h), (2, .ref x)] → W p l e room_1 s m #[Value.ref b] below meth c H locs 24 525 (lw_Z below #[Value.ref b] s) (F0 m 752 ls []) := by
  obtain ⟨hx, hb, hr, hml, hown, hts, hX, hbl, hlocks, hgv⟩ := C0
  have htl : ∀ w ∈ wsL_law, w.before #[Value.ref b] s = true := fun w hw => hts w (wsL_law_in w hw)
  have hA : ∀ q : Nat, s.heap.size ≤ q → (fun q : Nat => s.heap.size ≤ q) q := fun _ h => h
  have hbA : ¬ (fun q : Nat => s.heap.size ≤ q) b := Nat.not_le.mpr hbl
  intro H locs hP hD hS ls hl
  refine lv_aload_n hx hb dL_law_752 rfl (lv_at hl 2 rfl) ?_
  refine lv_aload_n hx hb dL_law_753 rfl (lv_at hl 1 rfl) ?_
  refine lv_iload_n hx hb dL_law_754 rfl (lv_at hl 0 rfl) ?_
  refine lv_iconst (v := nI 1) hx hb dL_law_755 (by decide) ?_
  refine pw_iadd hx hb dL_law_756 ?_
  refine pw_sld hx hb hX hbl hbA hS (show (5 * kk) + 1 < L by omega) (by omega) dL_law_757 ?_
  refine lv_aload_n hx hb dL_law_758 rfl (lv_at hl 1 rfl) ?_
  refine lv_iload_n hx hb dL_law_759 rfl (lv_at hl 0 rfl) ?_
  refine lv_iconst (v := nI 2) hx hb dL_law_760 (by decide) ?_
  refine pw_iadd hx hb dL_law_761 ?_
  refine pw_sld hx hb hX hbl hbA hS (show (5 * kk) + 2 < L by omega) (by omega) dL_law_762 ?_
  obtain ⟨r, md2, rc2, RF2, cr2, T2, Z2, pg2, R2, P2, Hd2, HA2, Lo2, Ol2, AS2, hR2, hC, hM⟩ := sim_weave (l := l) (D := D) (cI := cI) (cP := cP) (cR := cR) (h := h) (qr := qr) (qp := qp) (ro := ro) (ao := ao) (po := po) (x := x) (t := t) (z := z) (rf := rf) (rwa := rwa) (pl := pl) (hd := hd) (ha := ha) (lo := lo) (ol := ol) (asa := asa) (AS := AS) (by omega) hro hR (xs ((5 * kk) + 1)) (xs ((5 * kk) + 2))
  refine pw_cVm (Ts := wsL_law) (own := RL) (C := RX2) (As := [.int (xs ((5 * kk) + 1)), .int (xs ((5 * kk) + 2))]) (rest := []) (wc := cW cI cP cR h qr qp ro ao po md rc cr pg) (wr := mW cI x t z rf rwa pl hd ha lo ol asa md T Z RF R P Hd HA Lo Ol AS) ⟨hx, hb, hml, hown, htl⟩ hC (cwV 2 htl gL_law_X2_weave rfl rfl rfl (by decide +kernel) ⟨Nat.le_of_ble_eq_true rfl, Nat.le_of_ble_eq_true rfl⟩) hK hP hD hS hA [0, 1, 2, 3, 4, 5, 6, 7, 8, 9, 10, 11, 12] [13, 14, 15, 16, 17, 18, 19, 20, 21, 22, 23] rfl rfl (by decide) (by decide) (by decide) 0 (ci := 2) rfl rfl rfl rfl hl.1 rfl (Nat.le_of_ble_eq_true rfl) dL_law_763 ⟨Nat.le_of_ble_eq_true rfl, Nat.le_of_ble_eq_true rfl⟩ (fun v1 w1 H locs hq hP hD hS => ?_)
  obtain ⟨rfl, rfl⟩ := hq
  refine W.eq (g2 := F0 m 766 ls [.int (r)]) rfl ?_
  refine lv_aload_n hx hb dL_law_766 rfl (lv_at hl 3 rfl) ?_
  refine lv_aload_n hx hb dL_law_767 rfl (lv_at hl 1 rfl) ?_
  refine lv_iload_n hx hb dL_law_768 rfl (lv_at hl 0 rfl) ?_
  refine lv_iconst (v := nI 1) hx hb dL_law_769 (by decide) ?_
  refine pw_iadd hx hb dL_law_770 ?_
  refine pw_sld hx hb hX hbl hbA hS (show (5 * kk) + 1 < L by omega) (by omega) dL_law_771 ?_
  refine lv_aload_n hx hb dL_law_772 rfl (lv_at hl 1 rfl) ?_
  refine lv_iload_n hx hb dL_law_773 rfl (lv_at hl 0 rfl) ?_
  refine lv_iconst (v := nI 2) hx hb dL_law_774 (by decide) ?_
  refine pw_iadd hx hb dL_law_775 ?_
  refine pw_sld hx hb hX hbl hbA hS (show (5 * kk) + 2 < L by omega) (by omega) dL_law_776 ?_
  refine pw_cVm (Ts := wsL_law) (own := RL) (C := RX3) (As := [.int (xs ((5 * kk) + 1)), .int (xs ((5 * kk) + 2))]) (rest := [.int (r)]) (wc := mW cI x t z rf rwa pl hd ha lo ol asa md T Z RF R P Hd HA Lo Ol AS) (wr := cW cI cP cR h qr qp ro ao po md2 rc2 cr2 pg2) ⟨hx, hb, hml, hown, htl⟩ hM (cwV 2 htl gL_law_X3_weave rfl rfl rfl (by decide +kernel) ⟨Nat.le_of_ble_eq_true rfl, Nat.le_of_ble_eq_true rfl⟩) hK hP hD hS hA [0, 1, 2, 3, 4, 5, 6, 7, 8, 9, 10] [11, 12, 13, 14, 15, 16, 17, 18, 19, 20, 21, 22, 23] rfl rfl (by decide) (by decide) (by decide) 0 (ci := 3) rfl rfl rfl rfl hl.1 rfl (Nat.le_of_ble_eq_true rfl) dL_law_777 ⟨Nat.le_of_ble_eq_true rfl, Nat.le_of_ble_eq_true rfl⟩ (fun v1 w1 H locs hq hP hD hS => ?_)
  obtain ⟨rfl, rfl⟩ := hq
  refine W.eq (g2 := F0 m 780 ls [.int (r), .int (r)]) rfl ?_
  refine lv_icmp_eq (tgt := 1111) hx hb dL_law_780 (by decide) (fun c_1 => ?_) (fun c_1 => ?_)
  · have _h := c_1
    exact cont md2 rc2 RF2 cr2 T2 Z2 pg2 R2 P2 Hd2 HA2 Lo2 Ol2 AS2 hR2 H locs hP hD hS ls hl
  · exact absurd rfl c_1
set_option maxHeartbeats 4000000 in
set_option maxRecDepth 100000 in
theorem lc_prune (hL : L ≤ 2560) (C0 : lw_At p s m meth c b L xs) (hK : pw_K D cI cP cR s) (hro : ∀ i j, i < 3 → j < 3 → ro i = ro j → i = j) (h5 : 5 * kk + 5 ≤ L) (hR : Rel kk md rc RF cr T Z pg R P Hd HA Lo Ol) (cont : ∀ (md2 : Nat) (rc2 RF2 : Nat → Int32) (cr2 : Nat → Nat × Nat × (Nat → Int32)) (T2 : Nat → Nat → Int32) (Z2 : Nat → Nat) (pg2 : Nat → PgT) (R2 P2 Hd2 HA2 Lo2 Ol2 AS2 : Nat → Int32), Rel (kk + 1) md2 rc2 RF2 cr2 T2 Z2 pg2 R2 P2 Hd2 HA2 Lo2 Ol2 → ∀ (H : Heap) (locs : List Loc), va_P D vwCl (cW cI cP cR h qr qp ro ao po md2 rc2 cr2 pg2 ++ mW cI x t z rf rwa pl hd ha lo ol asa md2 T2 Z2 RF2 R2 P2 Hd2 HA2 Lo2 Ol2 AS2) H → va_D (fun q : Nat => s.heap.size ≤ q) (cW cI cP cR h qr qp ro ao po md2 rc2 cr2 pg2 ++ mW cI x t z rf rwa pl hd ha lo ol asa md2 T2 Z2 RF2 R2 P2 Hd2 HA2 Lo2 Ol2 AS2) → va_S (fun q : Nat => s.heap.size ≤ q) s.heap H locs → ∀ ls : Array Slot, lv_has ls 4 [(3, .int (nI (5 * kk))), (0, .ref b), (1, .ref h), (2, .ref x)] → W p l e room_1 s m #[Value.ref b] below meth c H locs 24 525 (lw_Z below #[Value.ref b] s) (F0 m 1111 ls [])) : ∀ (H : Heap) (locs : List Loc), va_P D vwCl (cW cI cP cR h qr qp ro ao po md rc cr pg ++ mW cI x t z rf rwa pl hd ha lo ol asa md T Z RF R P Hd HA Lo Ol AS) H → va_D (fun q : Nat => s.heap.size ≤ q) (cW cI cP cR h qr qp ro ao po md rc cr pg ++ mW cI x t z rf rwa pl hd ha lo ol asa md T Z RF R P Hd HA Lo Ol AS) → va_S (fun q : Nat => s.heap.size ≤ q) s.heap H locs → ∀ ls : Array Slot, lv_has ls 4 [(3, .int (nI (5 * kk))), (0, .ref b), (1, .ref h), (2, .ref x)] → W p l e room_1 s m #[Value.ref b] below meth c H locs 24 525 (lw_Z below #[Value.ref b] s) (F0 m 785 ls []) := by
  obtain ⟨hx, hb, hr, hml, hown, hts, hX, hbl, hlocks, hgv⟩ := C0
  have htl : ∀ w ∈ wsL_law, w.before #[Value.ref b] s = true := fun w hw => hts w (wsL_law_in w hw)
  have hA : ∀ q : Nat, s.heap.size ≤ q → (fun q : Nat => s.heap.size ≤ q) q := fun _ h => h
  have hbA : ¬ (fun q : Nat => s.heap.size ≤ q) b := Nat.not_le.mpr hbl
  intro H locs hP hD hS ls hl
  refine lv_aload_n hx hb dL_law_785 rfl (lv_at hl 2 rfl) ?_
  refine lv_aload_n hx hb dL_law_786 rfl (lv_at hl 1 rfl) ?_
  refine lv_iload_n hx hb dL_law_787 rfl (lv_at hl 0 rfl) ?_
  refine lv_iconst (v := nI 1) hx hb dL_law_788 (by decide) ?_
  refine pw_iadd hx hb dL_law_789 ?_
  refine pw_sld hx hb hX hbl hbA hS (show (5 * kk) + 1 < L by omega) (by omega) dL_law_790 ?_
  obtain ⟨r, md2, rc2, RF2, cr2, T2, Z2, pg2, R2, P2, Hd2, HA2, Lo2, Ol2, AS2, hR2, hC, hM⟩ := sim_prune (l := l) (D := D) (cI := cI) (cP := cP) (cR := cR) (h := h) (qr := qr) (qp := qp) (ro := ro) (ao := ao) (po := po) (x := x) (t := t) (z := z) (rf := rf) (rwa := rwa) (pl := pl) (hd := hd) (ha := ha) (lo := lo) (ol := ol) (asa := asa) (AS := AS) (by omega) hro hR (xs ((5 * kk) + 1))
  refine pw_cVm (Ts := wsL_law) (own := RL) (C := RX2) (As := [.int (xs ((5 * kk) + 1))]) (rest := []) (wc := cW cI cP cR h qr qp ro ao po md rc cr pg) (wr := mW cI x t z rf rwa pl hd ha lo ol asa md T Z RF R P Hd HA Lo Ol AS) ⟨hx, hb, hml, hown, htl⟩ hC (cwV 1 htl gL_law_X2_prune rfl rfl rfl (by decide +kernel) ⟨Nat.le_of_ble_eq_true rfl, Nat.le_of_ble_eq_true rfl⟩) hK hP hD hS hA [0, 1, 2, 3, 4, 5, 6, 7, 8, 9, 10, 11, 12] [13, 14, 15, 16, 17, 18, 19, 20, 21, 22, 23] rfl rfl (by decide) (by decide) (by decide) 0 (ci := 2) rfl rfl rfl rfl hl.1 rfl (Nat.le_of_ble_eq_true rfl) dL_law_791 ⟨Nat.le_of_ble_eq_true rfl, Nat.le_of_ble_eq_true rfl⟩ (fun v1 w1 H locs hq hP hD hS => ?_)
  obtain ⟨rfl, rfl⟩ := hq
  refine W.eq (g2 := F0 m 794 ls [.int (r)]) rfl ?_
  refine lv_aload_n hx hb dL_law_794 rfl (lv_at hl 3 rfl) ?_
  refine lv_aload_n hx hb dL_law_795 rfl (lv_at hl 1 rfl) ?_
  refine lv_iload_n hx hb dL_law_796 rfl (lv_at hl 0 rfl) ?_
  refine lv_iconst (v := nI 1) hx hb dL_law_797 (by decide) ?_
  refine pw_iadd hx hb dL_law_798 ?_
  refine pw_sld hx hb hX hbl hbA hS (show (5 * kk) + 1 < L by omega) (by omega) dL_law_799 ?_
  refine pw_cVm (Ts := wsL_law) (own := RL) (C := RX3) (As := [.int (xs ((5 * kk) + 1))]) (rest := [.int (r)]) (wc := mW cI x t z rf rwa pl hd ha lo ol asa md T Z RF R P Hd HA Lo Ol AS) (wr := cW cI cP cR h qr qp ro ao po md2 rc2 cr2 pg2) ⟨hx, hb, hml, hown, htl⟩ hM (cwV 1 htl gL_law_X3_prune rfl rfl rfl (by decide +kernel) ⟨Nat.le_of_ble_eq_true rfl, Nat.le_of_ble_eq_true rfl⟩) hK hP hD hS hA [0, 1, 2, 3, 4, 5, 6, 7, 8, 9, 10] [11, 12, 13, 14, 15, 16, 17, 18, 19, 20, 21, 22, 23] rfl rfl (by decide) (by decide) (by decide) 0 (ci := 3) rfl rfl rfl rfl hl.1 rfl (Nat.le_of_ble_eq_true rfl) dL_law_800 ⟨Nat.le_of_ble_eq_true rfl, Nat.le_of_ble_eq_true rfl⟩ (fun v1 w1 H locs hq hP hD hS => ?_)
  obtain ⟨rfl, rfl⟩ := hq
  refine W.eq (g2 := F0 m 803 ls [.int (r), .int (r)]) rfl ?_
  refine lv_icmp_eq (tgt := 1111) hx hb dL_law_803 (by decide) (fun c_1 => ?_) (fun c_1 => ?_)
  · have _h := c_1
    exact cont md2 rc2 RF2 cr2 T2 Z2 pg2 R2 P2 Hd2 HA2 Lo2 Ol2 AS2 hR2 H locs hP hD hS ls hl
  · exact absurd rfl c_1
set_option maxHeartbeats 4000000 in
set_option maxRecDepth 100000 in
theorem lc_size (hL : L ≤ 2560) (C0 : lw_At p s m meth c b L xs) (hK : pw_K D cI cP cR s) (hro : ∀ i j, i < 3 → j < 3 → ro i = ro j → i = j) (h5 : 5 * kk + 5 ≤ L) (hR : Rel kk md rc RF cr T Z pg R P Hd HA Lo Ol) (cont : ∀ (md2 : Nat) (rc2 RF2 : Nat → Int32) (cr2 : Nat → Nat × Nat × (Nat → Int32)) (T2 : Nat → Nat → Int32) (Z2 : Nat → Nat) (pg2 : Nat → PgT) (R2 P2 Hd2 HA2 Lo2 Ol2 AS2 : Nat → Int32), Rel (kk + 1) md2 rc2 RF2 cr2 T2 Z2 pg2 R2 P2 Hd2 HA2 Lo2 Ol2 → ∀ (H : Heap) (locs : List Loc), va_P D vwCl (cW cI cP cR h qr qp ro ao po md2 rc2 cr2 pg2 ++ mW cI x t z rf rwa pl hd ha lo ol asa md2 T2 Z2 RF2 R2 P2 Hd2 HA2 Lo2 Ol2 AS2) H → va_D (fun q : Nat => s.heap.size ≤ q) (cW cI cP cR h qr qp ro ao po md2 rc2 cr2 pg2 ++ mW cI x t z rf rwa pl hd ha lo ol asa md2 T2 Z2 RF2 R2 P2 Hd2 HA2 Lo2 Ol2 AS2) → va_S (fun q : Nat => s.heap.size ≤ q) s.heap H locs → ∀ ls : Array Slot, lv_has ls 4 [(3, .int (nI (5 * kk))), (0, .ref b), (1, .ref h), (2, .ref x)] → W p l e room_1 s m #[Value.ref b] below meth c H locs 24 525 (lw_Z below #[Value.ref b] s) (F0 m 1111 ls [])) : ∀ (H : Heap) (locs : List Loc), va_P D vwCl (cW cI cP cR h qr qp ro ao po md rc cr pg ++ mW cI x t z rf rwa pl hd ha lo ol asa md T Z RF R P Hd HA Lo Ol AS) H → va_D (fun q : Nat => s.heap.size ≤ q) (cW cI cP cR h qr qp ro ao po md rc cr pg ++ mW cI x t z rf rwa pl hd ha lo ol asa md T Z RF R P Hd HA Lo Ol AS) → va_S (fun q : Nat => s.heap.size ≤ q) s.heap H locs → ∀ ls : Array Slot, lv_has ls 4 [(3, .int (nI (5 * kk))), (0, .ref b), (1, .ref h), (2, .ref x)] → W p l e room_1 s m #[Value.ref b] below meth c H locs 24 525 (lw_Z below #[Value.ref b] s) (F0 m 808 ls []) := by
  obtain ⟨hx, hb, hr, hml, hown, hts, hX, hbl, hlocks, hgv⟩ := C0
  have htl : ∀ w ∈ wsL_law, w.before #[Value.ref b] s = true := fun w hw => hts w (wsL_law_in w hw)
  have hA : ∀ q : Nat, s.heap.size ≤ q → (fun q : Nat => s.heap.size ≤ q) q := fun _ h => h
  have hbA : ¬ (fun q : Nat => s.heap.size ≤ q) b := Nat.not_le.mpr hbl
  intro H locs hP hD hS ls hl
  refine lv_aload_n hx hb dL_law_808 rfl (lv_at hl 2 rfl) ?_
  refine lv_aload_n hx hb dL_law_809 rfl (lv_at hl 1 rfl) ?_
  refine lv_iload_n hx hb dL_law_810 rfl (lv_at hl 0 rfl) ?_
  refine lv_iconst (v := nI 1) hx hb dL_law_811 (by decide) ?_
  refine pw_iadd hx hb dL_law_812 ?_
  refine pw_sld hx hb hX hbl hbA hS (show (5 * kk) + 1 < L by omega) (by omega) dL_law_813 ?_
  obtain ⟨r, md2, rc2, RF2, cr2, T2, Z2, pg2, R2, P2, Hd2, HA2, Lo2, Ol2, AS2, hR2, hC, hM⟩ := sim_size (l := l) (D := D) (cI := cI) (cP := cP) (cR := cR) (h := h) (qr := qr) (qp := qp) (ro := ro) (ao := ao) (po := po) (x := x) (t := t) (z := z) (rf := rf) (rwa := rwa) (pl := pl) (hd := hd) (ha := ha) (lo := lo) (ol := ol) (asa := asa) (AS := AS) (by omega) hro hR (xs ((5 * kk) + 1))
  refine pw_cVm (Ts := wsL_law) (own := RL) (C := RX2) (As := [.int (xs ((5 * kk) + 1))]) (rest := []) (wc := cW cI cP cR h qr qp ro ao po md rc cr pg) (wr := mW cI x t z rf rwa pl hd ha lo ol asa md T Z RF R P Hd HA Lo Ol AS) ⟨hx, hb, hml, hown, htl⟩ hC (cwV 1 htl gL_law_X2_size rfl rfl rfl (by decide +kernel) ⟨Nat.le_of_ble_eq_true rfl, Nat.le_of_ble_eq_true rfl⟩) hK hP hD hS hA [0, 1, 2, 3, 4, 5, 6, 7, 8, 9, 10, 11, 12] [13, 14, 15, 16, 17, 18, 19, 20, 21, 22, 23] rfl rfl (by decide) (by decide) (by decide) 0 (ci := 2) rfl rfl rfl rfl hl.1 rfl (Nat.le_of_ble_eq_true rfl) dL_law_814 ⟨Nat.le_of_ble_eq_true rfl, Nat.le_of_ble_eq_true rfl⟩ (fun v1 w1 H locs hq hP hD hS => ?_)
  obtain ⟨rfl, rfl⟩ := hq
  refine W.eq (g2 := F0 m 817 ls [.int (r)]) rfl ?_
  refine lv_aload_n hx hb dL_law_817 rfl (lv_at hl 3 rfl) ?_
  refine lv_aload_n hx hb dL_law_818 rfl (lv_at hl 1 rfl) ?_
  refine lv_iload_n hx hb dL_law_819 rfl (lv_at hl 0 rfl) ?_
  refine lv_iconst (v := nI 1) hx hb dL_law_820 (by decide) ?_
  refine pw_iadd hx hb dL_law_821 ?_
  refine pw_sld hx hb hX hbl hbA hS (show (5 * kk) + 1 < L by omega) (by omega) dL_law_822 ?_
  refine pw_cVm (Ts := wsL_law) (own := RL) (C := RX3) (As := [.int (xs ((5 * kk) + 1))]) (rest := [.int (r)]) (wc := mW cI x t z rf rwa pl hd ha lo ol asa md T Z RF R P Hd HA Lo Ol AS) (wr := cW cI cP cR h qr qp ro ao po md2 rc2 cr2 pg2) ⟨hx, hb, hml, hown, htl⟩ hM (cwV 1 htl gL_law_X3_size rfl rfl rfl (by decide +kernel) ⟨Nat.le_of_ble_eq_true rfl, Nat.le_of_ble_eq_true rfl⟩) hK hP hD hS hA [0, 1, 2, 3, 4, 5, 6, 7, 8, 9, 10] [11, 12, 13, 14, 15, 16, 17, 18, 19, 20, 21, 22, 23] rfl rfl (by decide) (by decide) (by decide) 0 (ci := 3) rfl rfl rfl rfl hl.1 rfl (Nat.le_of_ble_eq_true rfl) dL_law_823 ⟨Nat.le_of_ble_eq_true rfl, Nat.le_of_ble_eq_true rfl⟩ (fun v1 w1 H locs hq hP hD hS => ?_)
  obtain ⟨rfl, rfl⟩ := hq
  refine W.eq (g2 := F0 m 826 ls [.int (r), .int (r)]) rfl ?_
  refine lv_icmp_eq (tgt := 1111) hx hb dL_law_826 (by decide) (fun c_1 => ?_) (fun c_1 => ?_)
  · have _h := c_1
    exact cont md2 rc2 RF2 cr2 T2 Z2 pg2 R2 P2 Hd2 HA2 Lo2 Ol2 AS2 hR2 H locs hP hD hS ls hl
  · exact absurd rfl c_1
set_option maxHeartbeats 4000000 in
set_option maxRecDepth 100000 in
theorem lc_sum (hL : L ≤ 2560) (C0 : lw_At p s m meth c b L xs) (hK : pw_K D cI cP cR s) (hro : ∀ i j, i < 3 → j < 3 → ro i = ro j → i = j) (h5 : 5 * kk + 5 ≤ L) (hR : Rel kk md rc RF cr T Z pg R P Hd HA Lo Ol) (cont : ∀ (md2 : Nat) (rc2 RF2 : Nat → Int32) (cr2 : Nat → Nat × Nat × (Nat → Int32)) (T2 : Nat → Nat → Int32) (Z2 : Nat → Nat) (pg2 : Nat → PgT) (R2 P2 Hd2 HA2 Lo2 Ol2 AS2 : Nat → Int32), Rel (kk + 1) md2 rc2 RF2 cr2 T2 Z2 pg2 R2 P2 Hd2 HA2 Lo2 Ol2 → ∀ (H : Heap) (locs : List Loc), va_P D vwCl (cW cI cP cR h qr qp ro ao po md2 rc2 cr2 pg2 ++ mW cI x t z rf rwa pl hd ha lo ol asa md2 T2 Z2 RF2 R2 P2 Hd2 HA2 Lo2 Ol2 AS2) H → va_D (fun q : Nat => s.heap.size ≤ q) (cW cI cP cR h qr qp ro ao po md2 rc2 cr2 pg2 ++ mW cI x t z rf rwa pl hd ha lo ol asa md2 T2 Z2 RF2 R2 P2 Hd2 HA2 Lo2 Ol2 AS2) → va_S (fun q : Nat => s.heap.size ≤ q) s.heap H locs → ∀ ls : Array Slot, lv_has ls 4 [(3, .int (nI (5 * kk))), (0, .ref b), (1, .ref h), (2, .ref x)] → W p l e room_1 s m #[Value.ref b] below meth c H locs 24 525 (lw_Z below #[Value.ref b] s) (F0 m 1111 ls [])) : ∀ (H : Heap) (locs : List Loc), va_P D vwCl (cW cI cP cR h qr qp ro ao po md rc cr pg ++ mW cI x t z rf rwa pl hd ha lo ol asa md T Z RF R P Hd HA Lo Ol AS) H → va_D (fun q : Nat => s.heap.size ≤ q) (cW cI cP cR h qr qp ro ao po md rc cr pg ++ mW cI x t z rf rwa pl hd ha lo ol asa md T Z RF R P Hd HA Lo Ol AS) → va_S (fun q : Nat => s.heap.size ≤ q) s.heap H locs → ∀ ls : Array Slot, lv_has ls 4 [(3, .int (nI (5 * kk))), (0, .ref b), (1, .ref h), (2, .ref x)] → W p l e room_1 s m #[Value.ref b] below meth c H locs 24 525 (lw_Z below #[Value.ref b] s) (F0 m 831 ls []) := by
  obtain ⟨hx, hb, hr, hml, hown, hts, hX, hbl, hlocks, hgv⟩ := C0
  have htl : ∀ w ∈ wsL_law, w.before #[Value.ref b] s = true := fun w hw => hts w (wsL_law_in w hw)
  have hA : ∀ q : Nat, s.heap.size ≤ q → (fun q : Nat => s.heap.size ≤ q) q := fun _ h => h
  have hbA : ¬ (fun q : Nat => s.heap.size ≤ q) b := Nat.not_le.mpr hbl
  intro H locs hP hD hS ls hl
  refine lv_aload_n hx hb dL_law_831 rfl (lv_at hl 2 rfl) ?_
  refine lv_aload_n hx hb dL_law_832 rfl (lv_at hl 1 rfl) ?_
  refine lv_iload_n hx hb dL_law_833 rfl (lv_at hl 0 rfl) ?_
  refine lv_iconst (v := nI 1) hx hb dL_law_834 (by decide) ?_
  refine pw_iadd hx hb dL_law_835 ?_
  refine pw_sld hx hb hX hbl hbA hS (show (5 * kk) + 1 < L by omega) (by omega) dL_law_836 ?_
  obtain ⟨r, md2, rc2, RF2, cr2, T2, Z2, pg2, R2, P2, Hd2, HA2, Lo2, Ol2, AS2, hR2, hC, hM⟩ := sim_sum (l := l) (D := D) (cI := cI) (cP := cP) (cR := cR) (h := h) (qr := qr) (qp := qp) (ro := ro) (ao := ao) (po := po) (x := x) (t := t) (z := z) (rf := rf) (rwa := rwa) (pl := pl) (hd := hd) (ha := ha) (lo := lo) (ol := ol) (asa := asa) (AS := AS) (by omega) hro hR (xs ((5 * kk) + 1))
  refine pw_cVm (Ts := wsL_law) (own := RL) (C := RX2) (As := [.int (xs ((5 * kk) + 1))]) (rest := []) (wc := cW cI cP cR h qr qp ro ao po md rc cr pg) (wr := mW cI x t z rf rwa pl hd ha lo ol asa md T Z RF R P Hd HA Lo Ol AS) ⟨hx, hb, hml, hown, htl⟩ hC (cwV 1 htl gL_law_X2_sum rfl rfl rfl (by decide +kernel) ⟨Nat.le_of_ble_eq_true rfl, Nat.le_of_ble_eq_true rfl⟩) hK hP hD hS hA [0, 1, 2, 3, 4, 5, 6, 7, 8, 9, 10, 11, 12] [13, 14, 15, 16, 17, 18, 19, 20, 21, 22, 23] rfl rfl (by decide) (by decide) (by decide) 0 (ci := 2) rfl rfl rfl rfl hl.1 rfl (Nat.le_of_ble_eq_true rfl) dL_law_837 ⟨Nat.le_of_ble_eq_true rfl, Nat.le_of_ble_eq_true rfl⟩ (fun v1 w1 H locs hq hP hD hS => ?_)
  obtain ⟨rfl, rfl⟩ := hq
  refine W.eq (g2 := F0 m 840 ls [.int (r)]) rfl ?_
  refine lv_aload_n hx hb dL_law_840 rfl (lv_at hl 3 rfl) ?_
  refine lv_aload_n hx hb dL_law_841 rfl (lv_at hl 1 rfl) ?_
  refine lv_iload_n hx hb dL_law_842 rfl (lv_at hl 0 rfl) ?_
  refine lv_iconst (v := nI 1) hx hb dL_law_843 (by decide) ?_
  refine pw_iadd hx hb dL_law_844 ?_
  refine pw_sld hx hb hX hbl hbA hS (show (5 * kk) + 1 < L by omega) (by omega) dL_law_845 ?_
  refine pw_cVm (Ts := wsL_law) (own := RL) (C := RX3) (As := [.int (xs ((5 * kk) + 1))]) (rest := [.int (r)]) (wc := mW cI x t z rf rwa pl hd ha lo ol asa md T Z RF R P Hd HA Lo Ol AS) (wr := cW cI cP cR h qr qp ro ao po md2 rc2 cr2 pg2) ⟨hx, hb, hml, hown, htl⟩ hM (cwV 1 htl gL_law_X3_sum rfl rfl rfl (by decide +kernel) ⟨Nat.le_of_ble_eq_true rfl, Nat.le_of_ble_eq_true rfl⟩) hK hP hD hS hA [0, 1, 2, 3, 4, 5, 6, 7, 8, 9, 10] [11, 12, 13, 14, 15, 16, 17, 18, 19, 20, 21, 22, 23] rfl rfl (by decide) (by decide) (by decide) 0 (ci := 3) rfl rfl rfl rfl hl.1 rfl (Nat.le_of_ble_eq_true rfl) dL_law_846 ⟨Nat.le_of_ble_eq_true rfl, Nat.le_of_ble_eq_true rfl⟩ (fun v1 w1 H locs hq hP hD hS => ?_)
  obtain ⟨rfl, rfl⟩ := hq
  refine W.eq (g2 := F0 m 849 ls [.int (r), .int (r)]) rfl ?_
  refine lv_icmp_eq (tgt := 1111) hx hb dL_law_849 (by decide) (fun c_1 => ?_) (fun c_1 => ?_)
  · have _h := c_1
    exact cont md2 rc2 RF2 cr2 T2 Z2 pg2 R2 P2 Hd2 HA2 Lo2 Ol2 AS2 hR2 H locs hP hD hS ls hl
  · exact absurd rfl c_1
set_option maxHeartbeats 4000000 in
set_option maxRecDepth 100000 in
theorem lc_peg (hL : L ≤ 2560) (C0 : lw_At p s m meth c b L xs) (hK : pw_K D cI cP cR s) (hro : ∀ i j, i < 3 → j < 3 → ro i = ro j → i = j) (h5 : 5 * kk + 5 ≤ L) (hR : Rel kk md rc RF cr T Z pg R P Hd HA Lo Ol) (cont : ∀ (md2 : Nat) (rc2 RF2 : Nat → Int32) (cr2 : Nat → Nat × Nat × (Nat → Int32)) (T2 : Nat → Nat → Int32) (Z2 : Nat → Nat) (pg2 : Nat → PgT) (R2 P2 Hd2 HA2 Lo2 Ol2 AS2 : Nat → Int32), Rel (kk + 1) md2 rc2 RF2 cr2 T2 Z2 pg2 R2 P2 Hd2 HA2 Lo2 Ol2 → ∀ (H : Heap) (locs : List Loc), va_P D vwCl (cW cI cP cR h qr qp ro ao po md2 rc2 cr2 pg2 ++ mW cI x t z rf rwa pl hd ha lo ol asa md2 T2 Z2 RF2 R2 P2 Hd2 HA2 Lo2 Ol2 AS2) H → va_D (fun q : Nat => s.heap.size ≤ q) (cW cI cP cR h qr qp ro ao po md2 rc2 cr2 pg2 ++ mW cI x t z rf rwa pl hd ha lo ol asa md2 T2 Z2 RF2 R2 P2 Hd2 HA2 Lo2 Ol2 AS2) → va_S (fun q : Nat => s.heap.size ≤ q) s.heap H locs → ∀ ls : Array Slot, lv_has ls 4 [(3, .int (nI (5 * kk))), (0, .ref b), (1, .ref h), (2, .ref x)] → W p l e room_1 s m #[Value.ref b] below meth c H locs 24 525 (lw_Z below #[Value.ref b] s) (F0 m 1111 ls [])) : ∀ (H : Heap) (locs : List Loc), va_P D vwCl (cW cI cP cR h qr qp ro ao po md rc cr pg ++ mW cI x t z rf rwa pl hd ha lo ol asa md T Z RF R P Hd HA Lo Ol AS) H → va_D (fun q : Nat => s.heap.size ≤ q) (cW cI cP cR h qr qp ro ao po md rc cr pg ++ mW cI x t z rf rwa pl hd ha lo ol asa md T Z RF R P Hd HA Lo Ol AS) → va_S (fun q : Nat => s.heap.size ≤ q) s.heap H locs → ∀ ls : Array Slot, lv_has ls 4 [(3, .int (nI (5 * kk))), (0, .ref b), (1, .ref h), (2, .ref x)] → W p l e room_1 s m #[Value.ref b] below meth c H locs 24 525 (lw_Z below #[Value.ref b] s) (F0 m 854 ls []) := by
  obtain ⟨hx, hb, hr, hml, hown, hts, hX, hbl, hlocks, hgv⟩ := C0
  have htl : ∀ w ∈ wsL_law, w.before #[Value.ref b] s = true := fun w hw => hts w (wsL_law_in w hw)
  have hA : ∀ q : Nat, s.heap.size ≤ q → (fun q : Nat => s.heap.size ≤ q) q := fun _ h => h
  have hbA : ¬ (fun q : Nat => s.heap.size ≤ q) b := Nat.not_le.mpr hbl
  intro H locs hP hD hS ls hl
  refine lv_aload_n hx hb dL_law_854 rfl (lv_at hl 2 rfl) ?_
  refine lv_aload_n hx hb dL_law_855 rfl (lv_at hl 1 rfl) ?_
  refine lv_iload_n hx hb dL_law_856 rfl (lv_at hl 0 rfl) ?_
  refine lv_iconst (v := nI 1) hx hb dL_law_857 (by decide) ?_
  refine pw_iadd hx hb dL_law_858 ?_
  refine pw_sld hx hb hX hbl hbA hS (show (5 * kk) + 1 < L by omega) (by omega) dL_law_859 ?_
  refine lv_aload_n hx hb dL_law_860 rfl (lv_at hl 1 rfl) ?_
  refine lv_iload_n hx hb dL_law_861 rfl (lv_at hl 0 rfl) ?_
  refine lv_iconst (v := nI 2) hx hb dL_law_862 (by decide) ?_
  refine pw_iadd hx hb dL_law_863 ?_
  refine pw_sld hx hb hX hbl hbA hS (show (5 * kk) + 2 < L by omega) (by omega) dL_law_864 ?_
  refine lv_aload_n hx hb dL_law_865 rfl (lv_at hl 1 rfl) ?_
  refine lv_iload_n hx hb dL_law_866 rfl (lv_at hl 0 rfl) ?_
  refine lv_iconst (v := nI 3) hx hb dL_law_867 (by decide) ?_
  refine pw_iadd hx hb dL_law_868 ?_
  refine pw_sld hx hb hX hbl hbA hS (show (5 * kk) + 3 < L by omega) (by omega) dL_law_869 ?_
  obtain ⟨r, md2, rc2, RF2, cr2, T2, Z2, pg2, R2, P2, Hd2, HA2, Lo2, Ol2, AS2, hR2, hC, hM⟩ := sim_peg (l := l) (D := D) (cI := cI) (cP := cP) (cR := cR) (h := h) (qr := qr) (qp := qp) (ro := ro) (ao := ao) (po := po) (x := x) (t := t) (z := z) (rf := rf) (rwa := rwa) (pl := pl) (hd := hd) (ha := ha) (lo := lo) (ol := ol) (asa := asa) (AS := AS) (by omega) hro hR (xs ((5 * kk) + 1)) (xs ((5 * kk) + 2)) (xs ((5 * kk) + 3))
  refine pw_cVm (Ts := wsL_law) (own := RL) (C := RX2) (As := [.int (xs ((5 * kk) + 1)), .int (xs ((5 * kk) + 2)), .int (xs ((5 * kk) + 3))]) (rest := []) (wc := cW cI cP cR h qr qp ro ao po md rc cr pg) (wr := mW cI x t z rf rwa pl hd ha lo ol asa md T Z RF R P Hd HA Lo Ol AS) ⟨hx, hb, hml, hown, htl⟩ hC (cwV 3 htl gL_law_X2_peg rfl rfl rfl (by decide +kernel) ⟨Nat.le_of_ble_eq_true rfl, Nat.le_of_ble_eq_true rfl⟩) hK hP hD hS hA [0, 1, 2, 3, 4, 5, 6, 7, 8, 9, 10, 11, 12] [13, 14, 15, 16, 17, 18, 19, 20, 21, 22, 23] rfl rfl (by decide) (by decide) (by decide) 0 (ci := 2) rfl rfl rfl rfl hl.1 rfl (Nat.le_of_ble_eq_true rfl) dL_law_870 ⟨Nat.le_of_ble_eq_true rfl, Nat.le_of_ble_eq_true rfl⟩ (fun v1 w1 H locs hq hP hD hS => ?_)
  obtain ⟨rfl, rfl⟩ := hq
  refine W.eq (g2 := F0 m 873 ls [.int (r)]) rfl ?_
  refine lv_aload_n hx hb dL_law_873 rfl (lv_at hl 3 rfl) ?_
  refine lv_aload_n hx hb dL_law_874 rfl (lv_at hl 1 rfl) ?_
  refine lv_iload_n hx hb dL_law_875 rfl (lv_at hl 0 rfl) ?_
  refine lv_iconst (v := nI 1) hx hb dL_law_876 (by decide) ?_
  refine pw_iadd hx hb dL_law_877 ?_
  refine pw_sld hx hb hX hbl hbA hS (show (5 * kk) + 1 < L by omega) (by omega) dL_law_878 ?_
  refine lv_aload_n hx hb dL_law_879 rfl (lv_at hl 1 rfl) ?_
  refine lv_iload_n hx hb dL_law_880 rfl (lv_at hl 0 rfl) ?_
  refine lv_iconst (v := nI 2) hx hb dL_law_881 (by decide) ?_
  refine pw_iadd hx hb dL_law_882 ?_
  refine pw_sld hx hb hX hbl hbA hS (show (5 * kk) + 2 < L by omega) (by omega) dL_law_883 ?_
  refine lv_aload_n hx hb dL_law_884 rfl (lv_at hl 1 rfl) ?_
  refine lv_iload_n hx hb dL_law_885 rfl (lv_at hl 0 rfl) ?_
  refine lv_iconst (v := nI 3) hx hb dL_law_886 (by decide) ?_
  refine pw_iadd hx hb dL_law_887 ?_
  refine pw_sld hx hb hX hbl hbA hS (show (5 * kk) + 3 < L by omega) (by omega) dL_law_888 ?_
  refine pw_cVm (Ts := wsL_law) (own := RL) (C := RX3) (As := [.int (xs ((5 * kk) + 1)), .int (xs ((5 * kk) + 2)), .int (xs ((5 * kk) + 3))]) (rest := [.int (r)]) (wc := mW cI x t z rf rwa pl hd ha lo ol asa md T Z RF R P Hd HA Lo Ol AS) (wr := cW cI cP cR h qr qp ro ao po md2 rc2 cr2 pg2) ⟨hx, hb, hml, hown, htl⟩ hM (cwV 3 htl gL_law_X3_peg rfl rfl rfl (by decide +kernel) ⟨Nat.le_of_ble_eq_true rfl, Nat.le_of_ble_eq_true rfl⟩) hK hP hD hS hA [0, 1, 2, 3, 4, 5, 6, 7, 8, 9, 10] [11, 12, 13, 14, 15, 16, 17, 18, 19, 20, 21, 22, 23] rfl rfl (by decide) (by decide) (by decide) 0 (ci := 3) rfl rfl rfl rfl hl.1 rfl (Nat.le_of_ble_eq_true rfl) dL_law_889 ⟨Nat.le_of_ble_eq_true rfl, Nat.le_of_ble_eq_true rfl⟩ (fun v1 w1 H locs hq hP hD hS => ?_)
  obtain ⟨rfl, rfl⟩ := hq
  refine W.eq (g2 := F0 m 892 ls [.int (r), .int (r)]) rfl ?_
  refine lv_icmp_eq (tgt := 1111) hx hb dL_law_892 (by decide) (fun c_1 => ?_) (fun c_1 => ?_)
  · have _h := c_1
    exact cont md2 rc2 RF2 cr2 T2 Z2 pg2 R2 P2 Hd2 HA2 Lo2 Ol2 AS2 hR2 H locs hP hD hS ls hl
  · exact absurd rfl c_1
set_option maxHeartbeats 4000000 in
set_option maxRecDepth 100000 in
theorem lc_next (hL : L ≤ 2560) (C0 : lw_At p s m meth c b L xs) (hK : pw_K D cI cP cR s) (hro : ∀ i j, i < 3 → j < 3 → ro i = ro j → i = j) (h5 : 5 * kk + 5 ≤ L) (hR : Rel kk md rc RF cr T Z pg R P Hd HA Lo Ol) (cont : ∀ (md2 : Nat) (rc2 RF2 : Nat → Int32) (cr2 : Nat → Nat × Nat × (Nat → Int32)) (T2 : Nat → Nat → Int32) (Z2 : Nat → Nat) (pg2 : Nat → PgT) (R2 P2 Hd2 HA2 Lo2 Ol2 AS2 : Nat → Int32), Rel (kk + 1) md2 rc2 RF2 cr2 T2 Z2 pg2 R2 P2 Hd2 HA2 Lo2 Ol2 → ∀ (H : Heap) (locs : List Loc), va_P D vwCl (cW cI cP cR h qr qp ro ao po md2 rc2 cr2 pg2 ++ mW cI x t z rf rwa pl hd ha lo ol asa md2 T2 Z2 RF2 R2 P2 Hd2 HA2 Lo2 Ol2 AS2) H → va_D (fun q : Nat => s.heap.size ≤ q) (cW cI cP cR h qr qp ro ao po md2 rc2 cr2 pg2 ++ mW cI x t z rf rwa pl hd ha lo ol asa md2 T2 Z2 RF2 R2 P2 Hd2 HA2 Lo2 Ol2 AS2) → va_S (fun q : Nat => s.heap.size ≤ q) s.heap H locs → ∀ ls : Array Slot, lv_has ls 4 [(3, .int (nI (5 * kk))), (0, .ref b), (1, .ref h), (2, .ref x)] → W p l e room_1 s m #[Value.ref b] below meth c H locs 24 525 (lw_Z below #[Value.ref b] s) (F0 m 1111 ls [])) : ∀ (H : Heap) (locs : List Loc), va_P D vwCl (cW cI cP cR h qr qp ro ao po md rc cr pg ++ mW cI x t z rf rwa pl hd ha lo ol asa md T Z RF R P Hd HA Lo Ol AS) H → va_D (fun q : Nat => s.heap.size ≤ q) (cW cI cP cR h qr qp ro ao po md rc cr pg ++ mW cI x t z rf rwa pl hd ha lo ol asa md T Z RF R P Hd HA Lo Ol AS) → va_S (fun q : Nat => s.heap.size ≤ q) s.heap H locs → ∀ ls : Array Slot, lv_has ls 4 [(3, .int (nI (5 * kk))), (0, .ref b), (1, .ref h), (2, .ref x)] → W p l e room_1 s m #[Value.ref b] below meth c H locs 24 525 (lw_Z below #[Value.ref b] s) (F0 m 897 ls []) := by
  obtain ⟨hx, hb, hr, hml, hown, hts, hX, hbl, hlocks, hgv⟩ := C0
  have htl : ∀ w ∈ wsL_law, w.before #[Value.ref b] s = true := fun w hw => hts w (wsL_law_in w hw)
  have hA : ∀ q : Nat, s.heap.size ≤ q → (fun q : Nat => s.heap.size ≤ q) q := fun _ h => h
  have hbA : ¬ (fun q : Nat => s.heap.size ≤ q) b := Nat.not_le.mpr hbl
  intro H locs hP hD hS ls hl
  refine lv_aload_n hx hb dL_law_897 rfl (lv_at hl 2 rfl) ?_
  refine lv_aload_n hx hb dL_law_898 rfl (lv_at hl 1 rfl) ?_
  refine lv_iload_n hx hb dL_law_899 rfl (lv_at hl 0 rfl) ?_
  refine lv_iconst (v := nI 1) hx hb dL_law_900 (by decide) ?_
  refine pw_iadd hx hb dL_law_901 ?_
  refine pw_sld hx hb hX hbl hbA hS (show (5 * kk) + 1 < L by omega) (by omega) dL_law_902 ?_
  obtain ⟨r, md2, rc2, RF2, cr2, T2, Z2, pg2, R2, P2, Hd2, HA2, Lo2, Ol2, AS2, hR2, hC, hM⟩ := sim_next (l := l) (D := D) (cI := cI) (cP := cP) (cR := cR) (h := h) (qr := qr) (qp := qp) (ro := ro) (ao := ao) (po := po) (x := x) (t := t) (z := z) (rf := rf) (rwa := rwa) (pl := pl) (hd := hd) (ha := ha) (lo := lo) (ol := ol) (asa := asa) (AS := AS) (by omega) hro hR (xs ((5 * kk) + 1))
  refine pw_cVm (Ts := wsL_law) (own := RL) (C := RX2) (As := [.int (xs ((5 * kk) + 1))]) (rest := []) (wc := cW cI cP cR h qr qp ro ao po md rc cr pg) (wr := mW cI x t z rf rwa pl hd ha lo ol asa md T Z RF R P Hd HA Lo Ol AS) ⟨hx, hb, hml, hown, htl⟩ hC (cwV 1 htl gL_law_X2_next rfl rfl rfl (by decide +kernel) ⟨Nat.le_of_ble_eq_true rfl, Nat.le_of_ble_eq_true rfl⟩) hK hP hD hS hA [0, 1, 2, 3, 4, 5, 6, 7, 8, 9, 10, 11, 12] [13, 14, 15, 16, 17, 18, 19, 20, 21, 22, 23] rfl rfl (by decide) (by decide) (by decide) 0 (ci := 2) rfl rfl rfl rfl hl.1 rfl (Nat.le_of_ble_eq_true rfl) dL_law_903 ⟨Nat.le_of_ble_eq_true rfl, Nat.le_of_ble_eq_true rfl⟩ (fun v1 w1 H locs hq hP hD hS => ?_)
  obtain ⟨rfl, rfl⟩ := hq
  refine W.eq (g2 := F0 m 906 ls [.int (r)]) rfl ?_
  refine lv_aload_n hx hb dL_law_906 rfl (lv_at hl 3 rfl) ?_
  refine lv_aload_n hx hb dL_law_907 rfl (lv_at hl 1 rfl) ?_
  refine lv_iload_n hx hb dL_law_908 rfl (lv_at hl 0 rfl) ?_
  refine lv_iconst (v := nI 1) hx hb dL_law_909 (by decide) ?_
  refine pw_iadd hx hb dL_law_910 ?_
  refine pw_sld hx hb hX hbl hbA hS (show (5 * kk) + 1 < L by omega) (by omega) dL_law_911 ?_
  refine pw_cVm (Ts := wsL_law) (own := RL) (C := RX3) (As := [.int (xs ((5 * kk) + 1))]) (rest := [.int (r)]) (wc := mW cI x t z rf rwa pl hd ha lo ol asa md T Z RF R P Hd HA Lo Ol AS) (wr := cW cI cP cR h qr qp ro ao po md2 rc2 cr2 pg2) ⟨hx, hb, hml, hown, htl⟩ hM (cwV 1 htl gL_law_X3_next rfl rfl rfl (by decide +kernel) ⟨Nat.le_of_ble_eq_true rfl, Nat.le_of_ble_eq_true rfl⟩) hK hP hD hS hA [0, 1, 2, 3, 4, 5, 6, 7, 8, 9, 10] [11, 12, 13, 14, 15, 16, 17, 18, 19, 20, 21, 22, 23] rfl rfl (by decide) (by decide) (by decide) 0 (ci := 3) rfl rfl rfl rfl hl.1 rfl (Nat.le_of_ble_eq_true rfl) dL_law_912 ⟨Nat.le_of_ble_eq_true rfl, Nat.le_of_ble_eq_true rfl⟩ (fun v1 w1 H locs hq hP hD hS => ?_)
  obtain ⟨rfl, rfl⟩ := hq
  refine W.eq (g2 := F0 m 915 ls [.int (r), .int (r)]) rfl ?_
  refine lv_icmp_eq (tgt := 1111) hx hb dL_law_915 (by decide) (fun c_1 => ?_) (fun c_1 => ?_)
  · have _h := c_1
    exact cont md2 rc2 RF2 cr2 T2 Z2 pg2 R2 P2 Hd2 HA2 Lo2 Ol2 AS2 hR2 H locs hP hD hS ls hl
  · exact absurd rfl c_1
set_option maxHeartbeats 4000000 in
set_option maxRecDepth 100000 in
theorem lc_previous (hL : L ≤ 2560) (C0 : lw_At p s m meth c b L xs) (hK : pw_K D cI cP cR s) (hro : ∀ i j, i < 3 → j < 3 → ro i = ro j → i = j) (h5 : 5 * kk + 5 ≤ L) (hR : Rel kk md rc RF cr T Z pg R P Hd HA Lo Ol) (cont : ∀ (md2 : Nat) (rc2 RF2 : Nat → Int32) (cr2 : Nat → Nat × Nat × (Nat → Int32)) (T2 : Nat → Nat → Int32) (Z2 : Nat → Nat) (pg2 : Nat → PgT) (R2 P2 Hd2 HA2 Lo2 Ol2 AS2 : Nat → Int32), Rel (kk + 1) md2 rc2 RF2 cr2 T2 Z2 pg2 R2 P2 Hd2 HA2 Lo2 Ol2 → ∀ (H : Heap) (locs : List Loc), va_P D vwCl (cW cI cP cR h qr qp ro ao po md2 rc2 cr2 pg2 ++ mW cI x t z rf rwa pl hd ha lo ol asa md2 T2 Z2 RF2 R2 P2 Hd2 HA2 Lo2 Ol2 AS2) H → va_D (fun q : Nat => s.heap.size ≤ q) (cW cI cP cR h qr qp ro ao po md2 rc2 cr2 pg2 ++ mW cI x t z rf rwa pl hd ha lo ol asa md2 T2 Z2 RF2 R2 P2 Hd2 HA2 Lo2 Ol2 AS2) → va_S (fun q : Nat => s.heap.size ≤ q) s.heap H locs → ∀ ls : Array Slot, lv_has ls 4 [(3, .int (nI (5 * kk))), (0, .ref b), (1, .ref h), (2, .ref x)] → W p l e room_1 s m #[Value.ref b] below meth c H locs 24 525 (lw_Z below #[Value.ref b] s) (F0 m 1111 ls [])) : ∀ (H : Heap) (locs : List Loc), va_P D vwCl (cW cI cP cR h qr qp ro ao po md rc cr pg ++ mW cI x t z rf rwa pl hd ha lo ol asa md T Z RF R P Hd HA Lo Ol AS) H → va_D (fun q : Nat => s.heap.size ≤ q) (cW cI cP cR h qr qp ro ao po md rc cr pg ++ mW cI x t z rf rwa pl hd ha lo ol asa md T Z RF R P Hd HA Lo Ol AS) → va_S (fun q : Nat => s.heap.size ≤ q) s.heap H locs → ∀ ls : Array Slot, lv_has ls 4 [(3, .int (nI (5 * kk))), (0, .ref b), (1, .ref h), (2, .ref x)] → W p l e room_1 s m #[Value.ref b] below meth c H locs 24 525 (lw_Z below #[Value.ref b] s) (F0 m 920 ls []) := by
  obtain ⟨hx, hb, hr, hml, hown, hts, hX, hbl, hlocks, hgv⟩ := C0
  have htl : ∀ w ∈ wsL_law, w.before #[Value.ref b] s = true := fun w hw => hts w (wsL_law_in w hw)
  have hA : ∀ q : Nat, s.heap.size ≤ q → (fun q : Nat => s.heap.size ≤ q) q := fun _ h => h
  have hbA : ¬ (fun q : Nat => s.heap.size ≤ q) b := Nat.not_le.mpr hbl
  intro H locs hP hD hS ls hl
  refine lv_aload_n hx hb dL_law_920 rfl (lv_at hl 2 rfl) ?_
  refine lv_aload_n hx hb dL_law_921 rfl (lv_at hl 1 rfl) ?_
  refine lv_iload_n hx hb dL_law_922 rfl (lv_at hl 0 rfl) ?_
  refine lv_iconst (v := nI 1) hx hb dL_law_923 (by decide) ?_
  refine pw_iadd hx hb dL_law_924 ?_
  refine pw_sld hx hb hX hbl hbA hS (show (5 * kk) + 1 < L by omega) (by omega) dL_law_925 ?_
  obtain ⟨r, md2, rc2, RF2, cr2, T2, Z2, pg2, R2, P2, Hd2, HA2, Lo2, Ol2, AS2, hR2, hC, hM⟩ := sim_previous (l := l) (D := D) (cI := cI) (cP := cP) (cR := cR) (h := h) (qr := qr) (qp := qp) (ro := ro) (ao := ao) (po := po) (x := x) (t := t) (z := z) (rf := rf) (rwa := rwa) (pl := pl) (hd := hd) (ha := ha) (lo := lo) (ol := ol) (asa := asa) (AS := AS) (by omega) hro hR (xs ((5 * kk) + 1))
  refine pw_cVm (Ts := wsL_law) (own := RL) (C := RX2) (As := [.int (xs ((5 * kk) + 1))]) (rest := []) (wc := cW cI cP cR h qr qp ro ao po md rc cr pg) (wr := mW cI x t z rf rwa pl hd ha lo ol asa md T Z RF R P Hd HA Lo Ol AS) ⟨hx, hb, hml, hown, htl⟩ hC (cwV 1 htl gL_law_X2_previous rfl rfl rfl (by decide +kernel) ⟨Nat.le_of_ble_eq_true rfl, Nat.le_of_ble_eq_true rfl⟩) hK hP hD hS hA [0, 1, 2, 3, 4, 5, 6, 7, 8, 9, 10, 11, 12] [13, 14, 15, 16, 17, 18, 19, 20, 21, 22, 23] rfl rfl (by decide) (by decide) (by decide) 0 (ci := 2) rfl rfl rfl rfl hl.1 rfl (Nat.le_of_ble_eq_true rfl) dL_law_926 ⟨Nat.le_of_ble_eq_true rfl, Nat.le_of_ble_eq_true rfl⟩ (fun v1 w1 H locs hq hP hD hS => ?_)
  obtain ⟨rfl, rfl⟩ := hq
  refine W.eq (g2 := F0 m 929 ls [.int (r)]) rfl ?_
  refine lv_aload_n hx hb dL_law_929 rfl (lv_at hl 3 rfl) ?_
  refine lv_aload_n hx hb dL_law_930 rfl (lv_at hl 1 rfl) ?_
  refine lv_iload_n hx hb dL_law_931 rfl (lv_at hl 0 rfl) ?_
  refine lv_iconst (v := nI 1) hx hb dL_law_932 (by decide) ?_
  refine pw_iadd hx hb dL_law_933 ?_
  refine pw_sld hx hb hX hbl hbA hS (show (5 * kk) + 1 < L by omega) (by omega) dL_law_934 ?_
  refine pw_cVm (Ts := wsL_law) (own := RL) (C := RX3) (As := [.int (xs ((5 * kk) + 1))]) (rest := [.int (r)]) (wc := mW cI x t z rf rwa pl hd ha lo ol asa md T Z RF R P Hd HA Lo Ol AS) (wr := cW cI cP cR h qr qp ro ao po md2 rc2 cr2 pg2) ⟨hx, hb, hml, hown, htl⟩ hM (cwV 1 htl gL_law_X3_previous rfl rfl rfl (by decide +kernel) ⟨Nat.le_of_ble_eq_true rfl, Nat.le_of_ble_eq_true rfl⟩) hK hP hD hS hA [0, 1, 2, 3, 4, 5, 6, 7, 8, 9, 10] [11, 12, 13, 14, 15, 16, 17, 18, 19, 20, 21, 22, 23] rfl rfl (by decide) (by decide) (by decide) 0 (ci := 3) rfl rfl rfl rfl hl.1 rfl (Nat.le_of_ble_eq_true rfl) dL_law_935 ⟨Nat.le_of_ble_eq_true rfl, Nat.le_of_ble_eq_true rfl⟩ (fun v1 w1 H locs hq hP hD hS => ?_)
  obtain ⟨rfl, rfl⟩ := hq
  refine W.eq (g2 := F0 m 938 ls [.int (r), .int (r)]) rfl ?_
  refine lv_icmp_eq (tgt := 1111) hx hb dL_law_938 (by decide) (fun c_1 => ?_) (fun c_1 => ?_)
  · have _h := c_1
    exact cont md2 rc2 RF2 cr2 T2 Z2 pg2 R2 P2 Hd2 HA2 Lo2 Ol2 AS2 hR2 H locs hP hD hS ls hl
  · exact absurd rfl c_1
set_option maxHeartbeats 4000000 in
set_option maxRecDepth 100000 in
theorem lc_side (hL : L ≤ 2560) (C0 : lw_At p s m meth c b L xs) (hK : pw_K D cI cP cR s) (hro : ∀ i j, i < 3 → j < 3 → ro i = ro j → i = j) (h5 : 5 * kk + 5 ≤ L) (hR : Rel kk md rc RF cr T Z pg R P Hd HA Lo Ol) (cont : ∀ (md2 : Nat) (rc2 RF2 : Nat → Int32) (cr2 : Nat → Nat × Nat × (Nat → Int32)) (T2 : Nat → Nat → Int32) (Z2 : Nat → Nat) (pg2 : Nat → PgT) (R2 P2 Hd2 HA2 Lo2 Ol2 AS2 : Nat → Int32), Rel (kk + 1) md2 rc2 RF2 cr2 T2 Z2 pg2 R2 P2 Hd2 HA2 Lo2 Ol2 → ∀ (H : Heap) (locs : List Loc), va_P D vwCl (cW cI cP cR h qr qp ro ao po md2 rc2 cr2 pg2 ++ mW cI x t z rf rwa pl hd ha lo ol asa md2 T2 Z2 RF2 R2 P2 Hd2 HA2 Lo2 Ol2 AS2) H → va_D (fun q : Nat => s.heap.size ≤ q) (cW cI cP cR h qr qp ro ao po md2 rc2 cr2 pg2 ++ mW cI x t z rf rwa pl hd ha lo ol asa md2 T2 Z2 RF2 R2 P2 Hd2 HA2 Lo2 Ol2 AS2) → va_S (fun q : Nat => s.heap.size ≤ q) s.heap H locs → ∀ ls : Array Slot, lv_has ls 4 [(3, .int (nI (5 * kk))), (0, .ref b), (1, .ref h), (2, .ref x)] → W p l e room_1 s m #[Value.ref b] below meth c H locs 24 525 (lw_Z below #[Value.ref b] s) (F0 m 1111 ls [])) : ∀ (H : Heap) (locs : List Loc), va_P D vwCl (cW cI cP cR h qr qp ro ao po md rc cr pg ++ mW cI x t z rf rwa pl hd ha lo ol asa md T Z RF R P Hd HA Lo Ol AS) H → va_D (fun q : Nat => s.heap.size ≤ q) (cW cI cP cR h qr qp ro ao po md rc cr pg ++ mW cI x t z rf rwa pl hd ha lo ol asa md T Z RF R P Hd HA Lo Ol AS) → va_S (fun q : Nat => s.heap.size ≤ q) s.heap H locs → ∀ ls : Array Slot, lv_has ls 4 [(3, .int (nI (5 * kk))), (0, .ref b), (1, .ref h), (2, .ref x)] → W p l e room_1 s m #[Value.ref b] below meth c H locs 24 525 (lw_Z below #[Value.ref b] s) (F0 m 943 ls []) := by
  obtain ⟨hx, hb, hr, hml, hown, hts, hX, hbl, hlocks, hgv⟩ := C0
  have htl : ∀ w ∈ wsL_law, w.before #[Value.ref b] s = true := fun w hw => hts w (wsL_law_in w hw)
  have hA : ∀ q : Nat, s.heap.size ≤ q → (fun q : Nat => s.heap.size ≤ q) q := fun _ h => h
  have hbA : ¬ (fun q : Nat => s.heap.size ≤ q) b := Nat.not_le.mpr hbl
  intro H locs hP hD hS ls hl
  refine lv_aload_n hx hb dL_law_943 rfl (lv_at hl 2 rfl) ?_
  refine lv_aload_n hx hb dL_law_944 rfl (lv_at hl 1 rfl) ?_
  refine lv_iload_n hx hb dL_law_945 rfl (lv_at hl 0 rfl) ?_
  refine lv_iconst (v := nI 1) hx hb dL_law_946 (by decide) ?_
  refine pw_iadd hx hb dL_law_947 ?_
  refine pw_sld hx hb hX hbl hbA hS (show (5 * kk) + 1 < L by omega) (by omega) dL_law_948 ?_
  refine lv_aload_n hx hb dL_law_949 rfl (lv_at hl 1 rfl) ?_
  refine lv_iload_n hx hb dL_law_950 rfl (lv_at hl 0 rfl) ?_
  refine lv_iconst (v := nI 2) hx hb dL_law_951 (by decide) ?_
  refine pw_iadd hx hb dL_law_952 ?_
  refine pw_sld hx hb hX hbl hbA hS (show (5 * kk) + 2 < L by omega) (by omega) dL_law_953 ?_
  obtain ⟨r, md2, rc2, RF2, cr2, T2, Z2, pg2, R2, P2, Hd2, HA2, Lo2, Ol2, AS2, hR2, hC, hM⟩ := sim_side (l := l) (D := D) (cI := cI) (cP := cP) (cR := cR) (h := h) (qr := qr) (qp := qp) (ro := ro) (ao := ao) (po := po) (x := x) (t := t) (z := z) (rf := rf) (rwa := rwa) (pl := pl) (hd := hd) (ha := ha) (lo := lo) (ol := ol) (asa := asa) (AS := AS) (by omega) hro hR (xs ((5 * kk) + 1)) (xs ((5 * kk) + 2))
  refine pw_cVm (Ts := wsL_law) (own := RL) (C := RX2) (As := [.int (xs ((5 * kk) + 1)), .int (xs ((5 * kk) + 2))]) (rest := []) (wc := cW cI cP cR h qr qp ro ao po md rc cr pg) (wr := mW cI x t z rf rwa pl hd ha lo ol asa md T Z RF R P Hd HA Lo Ol AS) ⟨hx, hb, hml, hown, htl⟩ hC (cwV 2 htl gL_law_X2_side rfl rfl rfl (by decide +kernel) ⟨Nat.le_of_ble_eq_true rfl, Nat.le_of_ble_eq_true rfl⟩) hK hP hD hS hA [0, 1, 2, 3, 4, 5, 6, 7, 8, 9, 10, 11, 12] [13, 14, 15, 16, 17, 18, 19, 20, 21, 22, 23] rfl rfl (by decide) (by decide) (by decide) 0 (ci := 2) rfl rfl rfl rfl hl.1 rfl (Nat.le_of_ble_eq_true rfl) dL_law_954 ⟨Nat.le_of_ble_eq_true rfl, Nat.le_of_ble_eq_true rfl⟩ (fun v1 w1 H locs hq hP hD hS => ?_)
  obtain ⟨rfl, rfl⟩ := hq
  refine W.eq (g2 := F0 m 957 ls [.int (r)]) rfl ?_
  refine lv_aload_n hx hb dL_law_957 rfl (lv_at hl 3 rfl) ?_
  refine lv_aload_n hx hb dL_law_958 rfl (lv_at hl 1 rfl) ?_
  refine lv_iload_n hx hb dL_law_959 rfl (lv_at hl 0 rfl) ?_
  refine lv_iconst (v := nI 1) hx hb dL_law_960 (by decide) ?_
  refine pw_iadd hx hb dL_law_961 ?_
  refine pw_sld hx hb hX hbl hbA hS (show (5 * kk) + 1 < L by omega) (by omega) dL_law_962 ?_
  refine lv_aload_n hx hb dL_law_963 rfl (lv_at hl 1 rfl) ?_
  refine lv_iload_n hx hb dL_law_964 rfl (lv_at hl 0 rfl) ?_
  refine lv_iconst (v := nI 2) hx hb dL_law_965 (by decide) ?_
  refine pw_iadd hx hb dL_law_966 ?_
  refine pw_sld hx hb hX hbl hbA hS (show (5 * kk) + 2 < L by omega) (by omega) dL_law_967 ?_
  refine pw_cVm (Ts := wsL_law) (own := RL) (C := RX3) (As := [.int (xs ((5 * kk) + 1)), .int (xs ((5 * kk) + 2))]) (rest := [.int (r)]) (wc := mW cI x t z rf rwa pl hd ha lo ol asa md T Z RF R P Hd HA Lo Ol AS) (wr := cW cI cP cR h qr qp ro ao po md2 rc2 cr2 pg2) ⟨hx, hb, hml, hown, htl⟩ hM (cwV 2 htl gL_law_X3_side rfl rfl rfl (by decide +kernel) ⟨Nat.le_of_ble_eq_true rfl, Nat.le_of_ble_eq_true rfl⟩) hK hP hD hS hA [0, 1, 2, 3, 4, 5, 6, 7, 8, 9, 10] [11, 12, 13, 14, 15, 16, 17, 18, 19, 20, 21, 22, 23] rfl rfl (by decide) (by decide) (by decide) 0 (ci := 3) rfl rfl rfl rfl hl.1 rfl (Nat.le_of_ble_eq_true rfl) dL_law_968 ⟨Nat.le_of_ble_eq_true rfl, Nat.le_of_ble_eq_true rfl⟩ (fun v1 w1 H locs hq hP hD hS => ?_)
  obtain ⟨rfl, rfl⟩ := hq
  refine W.eq (g2 := F0 m 971 ls [.int (r), .int (r)]) rfl ?_
  refine lv_icmp_eq (tgt := 1111) hx hb dL_law_971 (by decide) (fun c_1 => ?_) (fun c_1 => ?_)
  · have _h := c_1
    exact cont md2 rc2 RF2 cr2 T2 Z2 pg2 R2 P2 Hd2 HA2 Lo2 Ol2 AS2 hR2 H locs hP hD hS ls hl
  · exact absurd rfl c_1
set_option maxHeartbeats 4000000 in
set_option maxRecDepth 100000 in
theorem lc_change (hL : L ≤ 2560) (C0 : lw_At p s m meth c b L xs) (hK : pw_K D cI cP cR s) (hro : ∀ i j, i < 3 → j < 3 → ro i = ro j → i = j) (h5 : 5 * kk + 5 ≤ L) (hR : Rel kk md rc RF cr T Z pg R P Hd HA Lo Ol) (cont : ∀ (md2 : Nat) (rc2 RF2 : Nat → Int32) (cr2 : Nat → Nat × Nat × (Nat → Int32)) (T2 : Nat → Nat → Int32) (Z2 : Nat → Nat) (pg2 : Nat → PgT) (R2 P2 Hd2 HA2 Lo2 Ol2 AS2 : Nat → Int32), Rel (kk + 1) md2 rc2 RF2 cr2 T2 Z2 pg2 R2 P2 Hd2 HA2 Lo2 Ol2 → ∀ (H : Heap) (locs : List Loc), va_P D vwCl (cW cI cP cR h qr qp ro ao po md2 rc2 cr2 pg2 ++ mW cI x t z rf rwa pl hd ha lo ol asa md2 T2 Z2 RF2 R2 P2 Hd2 HA2 Lo2 Ol2 AS2) H → va_D (fun q : Nat => s.heap.size ≤ q) (cW cI cP cR h qr qp ro ao po md2 rc2 cr2 pg2 ++ mW cI x t z rf rwa pl hd ha lo ol asa md2 T2 Z2 RF2 R2 P2 Hd2 HA2 Lo2 Ol2 AS2) → va_S (fun q : Nat => s.heap.size ≤ q) s.heap H locs → ∀ ls : Array Slot, lv_has ls 4 [(3, .int (nI (5 * kk))), (0, .ref b), (1, .ref h), (2, .ref x)] → W p l e room_1 s m #[Value.ref b] below meth c H locs 24 525 (lw_Z below #[Value.ref b] s) (F0 m 1111 ls [])) : ∀ (H : Heap) (locs : List Loc), va_P D vwCl (cW cI cP cR h qr qp ro ao po md rc cr pg ++ mW cI x t z rf rwa pl hd ha lo ol asa md T Z RF R P Hd HA Lo Ol AS) H → va_D (fun q : Nat => s.heap.size ≤ q) (cW cI cP cR h qr qp ro ao po md rc cr pg ++ mW cI x t z rf rwa pl hd ha lo ol asa md T Z RF R P Hd HA Lo Ol AS) → va_S (fun q : Nat => s.heap.size ≤ q) s.heap H locs → ∀ ls : Array Slot, lv_has ls 4 [(3, .int (nI (5 * kk))), (0, .ref b), (1, .ref h), (2, .ref x)] → W p l e room_1 s m #[Value.ref b] below meth c H locs 24 525 (lw_Z below #[Value.ref b] s) (F0 m 976 ls []) := by
  obtain ⟨hx, hb, hr, hml, hown, hts, hX, hbl, hlocks, hgv⟩ := C0
  have htl : ∀ w ∈ wsL_law, w.before #[Value.ref b] s = true := fun w hw => hts w (wsL_law_in w hw)
  have hA : ∀ q : Nat, s.heap.size ≤ q → (fun q : Nat => s.heap.size ≤ q) q := fun _ h => h
  have hbA : ¬ (fun q : Nat => s.heap.size ≤ q) b := Nat.not_le.mpr hbl
  intro H locs hP hD hS ls hl
  refine lv_aload_n hx hb dL_law_976 rfl (lv_at hl 2 rfl) ?_
  refine lv_aload_n hx hb dL_law_977 rfl (lv_at hl 1 rfl) ?_
  refine lv_iload_n hx hb dL_law_978 rfl (lv_at hl 0 rfl) ?_
  refine lv_iconst (v := nI 1) hx hb dL_law_979 (by decide) ?_
  refine pw_iadd hx hb dL_law_980 ?_
  refine pw_sld hx hb hX hbl hbA hS (show (5 * kk) + 1 < L by omega) (by omega) dL_law_981 ?_
  refine lv_aload_n hx hb dL_law_982 rfl (lv_at hl 1 rfl) ?_
  refine lv_iload_n hx hb dL_law_983 rfl (lv_at hl 0 rfl) ?_
  refine lv_iconst (v := nI 2) hx hb dL_law_984 (by decide) ?_
  refine pw_iadd hx hb dL_law_985 ?_
  refine pw_sld hx hb hX hbl hbA hS (show (5 * kk) + 2 < L by omega) (by omega) dL_law_986 ?_
  obtain ⟨r, md2, rc2, RF2, cr2, T2, Z2, pg2, R2, P2, Hd2, HA2, Lo2, Ol2, AS2, hR2, hC, hM⟩ := sim_change (l := l) (D := D) (cI := cI) (cP := cP) (cR := cR) (h := h) (qr := qr) (qp := qp) (ro := ro) (ao := ao) (po := po) (x := x) (t := t) (z := z) (rf := rf) (rwa := rwa) (pl := pl) (hd := hd) (ha := ha) (lo := lo) (ol := ol) (asa := asa) (AS := AS) (by omega) hro hR (xs ((5 * kk) + 1)) (xs ((5 * kk) + 2))
  refine pw_cVm (Ts := wsL_law) (own := RL) (C := RX2) (As := [.int (xs ((5 * kk) + 1)), .int (xs ((5 * kk) + 2))]) (rest := []) (wc := cW cI cP cR h qr qp ro ao po md rc cr pg) (wr := mW cI x t z rf rwa pl hd ha lo ol asa md T Z RF R P Hd HA Lo Ol AS) ⟨hx, hb, hml, hown, htl⟩ hC (cwV 2 htl gL_law_X2_change rfl rfl rfl (by decide +kernel) ⟨Nat.le_of_ble_eq_true rfl, Nat.le_of_ble_eq_true rfl⟩) hK hP hD hS hA [0, 1, 2, 3, 4, 5, 6, 7, 8, 9, 10, 11, 12] [13, 14, 15, 16, 17, 18, 19, 20, 21, 22, 23] rfl rfl (by decide) (by decide) (by decide) 0 (ci := 2) rfl rfl rfl rfl hl.1 rfl (Nat.le_of_ble_eq_true rfl) dL_law_987 ⟨Nat.le_of_ble_eq_true rfl, Nat.le_of_ble_eq_true rfl⟩ (fun v1 w1 H locs hq hP hD hS => ?_)
  obtain ⟨rfl, rfl⟩ := hq
  refine W.eq (g2 := F0 m 990 ls [.int (r)]) rfl ?_
  refine lv_aload_n hx hb dL_law_990 rfl (lv_at hl 3 rfl) ?_
  refine lv_aload_n hx hb dL_law_991 rfl (lv_at hl 1 rfl) ?_
  refine lv_iload_n hx hb dL_law_992 rfl (lv_at hl 0 rfl) ?_
  refine lv_iconst (v := nI 1) hx hb dL_law_993 (by decide) ?_
  refine pw_iadd hx hb dL_law_994 ?_
  refine pw_sld hx hb hX hbl hbA hS (show (5 * kk) + 1 < L by omega) (by omega) dL_law_995 ?_
  refine lv_aload_n hx hb dL_law_996 rfl (lv_at hl 1 rfl) ?_
  refine lv_iload_n hx hb dL_law_997 rfl (lv_at hl 0 rfl) ?_
  refine lv_iconst (v := nI 2) hx hb dL_law_998 (by decide) ?_
  refine pw_iadd hx hb dL_law_999 ?_
  refine pw_sld hx hb hX hbl hbA hS (show (5 * kk) + 2 < L by omega) (by omega) dL_law_1000 ?_
  refine pw_cVm (Ts := wsL_law) (own := RL) (C := RX3) (As := [.int (xs ((5 * kk) + 1)), .int (xs ((5 * kk) + 2))]) (rest := [.int (r)]) (wc := mW cI x t z rf rwa pl hd ha lo ol asa md T Z RF R P Hd HA Lo Ol AS) (wr := cW cI cP cR h qr qp ro ao po md2 rc2 cr2 pg2) ⟨hx, hb, hml, hown, htl⟩ hM (cwV 2 htl gL_law_X3_change rfl rfl rfl (by decide +kernel) ⟨Nat.le_of_ble_eq_true rfl, Nat.le_of_ble_eq_true rfl⟩) hK hP hD hS hA [0, 1, 2, 3, 4, 5, 6, 7, 8, 9, 10] [11, 12, 13, 14, 15, 16, 17, 18, 19, 20, 21, 22, 23] rfl rfl (by decide) (by decide) (by decide) 0 (ci := 3) rfl rfl rfl rfl hl.1 rfl (Nat.le_of_ble_eq_true rfl) dL_law_1001 ⟨Nat.le_of_ble_eq_true rfl, Nat.le_of_ble_eq_true rfl⟩ (fun v1 w1 H locs hq hP hD hS => ?_)
  obtain ⟨rfl, rfl⟩ := hq
  refine W.eq (g2 := F0 m 1004 ls [.int (r), .int (r)]) rfl ?_
  refine lv_icmp_eq (tgt := 1111) hx hb dL_law_1004 (by decide) (fun c_1 => ?_) (fun c_1 => ?_)
  · have _h := c_1
    exact cont md2 rc2 RF2 cr2 T2 Z2 pg2 R2 P2 Hd2 HA2 Lo2 Ol2 AS2 hR2 H locs hP hD hS ls hl
  · exact absurd rfl c_1
set_option maxHeartbeats 4000000 in
set_option maxRecDepth 100000 in
theorem lc_add (hL : L ≤ 2560) (C0 : lw_At p s m meth c b L xs) (hK : pw_K D cI cP cR s) (hro : ∀ i j, i < 3 → j < 3 → ro i = ro j → i = j) (h5 : 5 * kk + 5 ≤ L) (hR : Rel kk md rc RF cr T Z pg R P Hd HA Lo Ol) (cont : ∀ (md2 : Nat) (rc2 RF2 : Nat → Int32) (cr2 : Nat → Nat × Nat × (Nat → Int32)) (T2 : Nat → Nat → Int32) (Z2 : Nat → Nat) (pg2 : Nat → PgT) (R2 P2 Hd2 HA2 Lo2 Ol2 AS2 : Nat → Int32), Rel (kk + 1) md2 rc2 RF2 cr2 T2 Z2 pg2 R2 P2 Hd2 HA2 Lo2 Ol2 → ∀ (H : Heap) (locs : List Loc), va_P D vwCl (cW cI cP cR h qr qp ro ao po md2 rc2 cr2 pg2 ++ mW cI x t z rf rwa pl hd ha lo ol asa md2 T2 Z2 RF2 R2 P2 Hd2 HA2 Lo2 Ol2 AS2) H → va_D (fun q : Nat => s.heap.size ≤ q) (cW cI cP cR h qr qp ro ao po md2 rc2 cr2 pg2 ++ mW cI x t z rf rwa pl hd ha lo ol asa md2 T2 Z2 RF2 R2 P2 Hd2 HA2 Lo2 Ol2 AS2) → va_S (fun q : Nat => s.heap.size ≤ q) s.heap H locs → ∀ ls : Array Slot, lv_has ls 4 [(3, .int (nI (5 * kk))), (0, .ref b), (1, .ref h), (2, .ref x)] → W p l e room_1 s m #[Value.ref b] below meth c H locs 24 525 (lw_Z below #[Value.ref b] s) (F0 m 1111 ls [])) : ∀ (H : Heap) (locs : List Loc), va_P D vwCl (cW cI cP cR h qr qp ro ao po md rc cr pg ++ mW cI x t z rf rwa pl hd ha lo ol asa md T Z RF R P Hd HA Lo Ol AS) H → va_D (fun q : Nat => s.heap.size ≤ q) (cW cI cP cR h qr qp ro ao po md rc cr pg ++ mW cI x t z rf rwa pl hd ha lo ol asa md T Z RF R P Hd HA Lo Ol AS) → va_S (fun q : Nat => s.heap.size ≤ q) s.heap H locs → ∀ ls : Array Slot, lv_has ls 4 [(3, .int (nI (5 * kk))), (0, .ref b), (1, .ref h), (2, .ref x)] → W p l e room_1 s m #[Value.ref b] below meth c H locs 24 525 (lw_Z below #[Value.ref b] s) (F0 m 1009 ls []) := by
  obtain ⟨hx, hb, hr, hml, hown, hts, hX, hbl, hlocks, hgv⟩ := C0
  have htl : ∀ w ∈ wsL_law, w.before #[Value.ref b] s = true := fun w hw => hts w (wsL_law_in w hw)
  have hA : ∀ q : Nat, s.heap.size ≤ q → (fun q : Nat => s.heap.size ≤ q) q := fun _ h => h
  have hbA : ¬ (fun q : Nat => s.heap.size ≤ q) b := Nat.not_le.mpr hbl
  intro H locs hP hD hS ls hl
  refine lv_aload_n hx hb dL_law_1009 rfl (lv_at hl 2 rfl) ?_
  refine lv_aload_n hx hb dL_law_1010 rfl (lv_at hl 1 rfl) ?_
  refine lv_iload_n hx hb dL_law_1011 rfl (lv_at hl 0 rfl) ?_
  refine lv_iconst (v := nI 1) hx hb dL_law_1012 (by decide) ?_
  refine pw_iadd hx hb dL_law_1013 ?_
  refine pw_sld hx hb hX hbl hbA hS (show (5 * kk) + 1 < L by omega) (by omega) dL_law_1014 ?_
  refine lv_aload_n hx hb dL_law_1015 rfl (lv_at hl 1 rfl) ?_
  refine lv_iload_n hx hb dL_law_1016 rfl (lv_at hl 0 rfl) ?_
  refine lv_iconst (v := nI 2) hx hb dL_law_1017 (by decide) ?_
  refine pw_iadd hx hb dL_law_1018 ?_
  refine pw_sld hx hb hX hbl hbA hS (show (5 * kk) + 2 < L by omega) (by omega) dL_law_1019 ?_
  obtain ⟨r, md2, rc2, RF2, cr2, T2, Z2, pg2, R2, P2, Hd2, HA2, Lo2, Ol2, AS2, hR2, hC, hM⟩ := sim_add (l := l) (D := D) (cI := cI) (cP := cP) (cR := cR) (h := h) (qr := qr) (qp := qp) (ro := ro) (ao := ao) (po := po) (x := x) (t := t) (z := z) (rf := rf) (rwa := rwa) (pl := pl) (hd := hd) (ha := ha) (lo := lo) (ol := ol) (asa := asa) (AS := AS) (by omega) hro hR (xs ((5 * kk) + 1)) (xs ((5 * kk) + 2))
  refine pw_cVm (Ts := wsL_law) (own := RL) (C := RX2) (As := [.int (xs ((5 * kk) + 1)), .int (xs ((5 * kk) + 2))]) (rest := []) (wc := cW cI cP cR h qr qp ro ao po md rc cr pg) (wr := mW cI x t z rf rwa pl hd ha lo ol asa md T Z RF R P Hd HA Lo Ol AS) ⟨hx, hb, hml, hown, htl⟩ hC (cwV 2 htl gL_law_X2_add rfl rfl rfl (by decide +kernel) ⟨Nat.le_of_ble_eq_true rfl, Nat.le_of_ble_eq_true rfl⟩) hK hP hD hS hA [0, 1, 2, 3, 4, 5, 6, 7, 8, 9, 10, 11, 12] [13, 14, 15, 16, 17, 18, 19, 20, 21, 22, 23] rfl rfl (by decide) (by decide) (by decide) 0 (ci := 2) rfl rfl rfl rfl hl.1 rfl (Nat.le_of_ble_eq_true rfl) dL_law_1020 ⟨Nat.le_of_ble_eq_true rfl, Nat.le_of_ble_eq_true rfl⟩ (fun v1 w1 H locs hq hP hD hS => ?_)
  obtain ⟨rfl, rfl⟩ := hq
  refine W.eq (g2 := F0 m 1023 ls [.int (r)]) rfl ?_
  refine lv_aload_n hx hb dL_law_1023 rfl (lv_at hl 3 rfl) ?_
  refine lv_aload_n hx hb dL_law_1024 rfl (lv_at hl 1 rfl) ?_
  refine lv_iload_n hx hb dL_law_1025 rfl (lv_at hl 0 rfl) ?_
  refine lv_iconst (v := nI 1) hx hb dL_law_1026 (by decide) ?_
  refine pw_iadd hx hb dL_law_1027 ?_
  refine pw_sld hx hb hX hbl hbA hS (show (5 * kk) + 1 < L by omega) (by omega) dL_law_1028 ?_
  refine lv_aload_n hx hb dL_law_1029 rfl (lv_at hl 1 rfl) ?_
  refine lv_iload_n hx hb dL_law_1030 rfl (lv_at hl 0 rfl) ?_
  refine lv_iconst (v := nI 2) hx hb dL_law_1031 (by decide) ?_
  refine pw_iadd hx hb dL_law_1032 ?_
  refine pw_sld hx hb hX hbl hbA hS (show (5 * kk) + 2 < L by omega) (by omega) dL_law_1033 ?_
  refine pw_cVm (Ts := wsL_law) (own := RL) (C := RX3) (As := [.int (xs ((5 * kk) + 1)), .int (xs ((5 * kk) + 2))]) (rest := [.int (r)]) (wc := mW cI x t z rf rwa pl hd ha lo ol asa md T Z RF R P Hd HA Lo Ol AS) (wr := cW cI cP cR h qr qp ro ao po md2 rc2 cr2 pg2) ⟨hx, hb, hml, hown, htl⟩ hM (cwV 2 htl gL_law_X3_add rfl rfl rfl (by decide +kernel) ⟨Nat.le_of_ble_eq_true rfl, Nat.le_of_ble_eq_true rfl⟩) hK hP hD hS hA [0, 1, 2, 3, 4, 5, 6, 7, 8, 9, 10] [11, 12, 13, 14, 15, 16, 17, 18, 19, 20, 21, 22, 23] rfl rfl (by decide) (by decide) (by decide) 0 (ci := 3) rfl rfl rfl rfl hl.1 rfl (Nat.le_of_ble_eq_true rfl) dL_law_1034 ⟨Nat.le_of_ble_eq_true rfl, Nat.le_of_ble_eq_true rfl⟩ (fun v1 w1 H locs hq hP hD hS => ?_)
  obtain ⟨rfl, rfl⟩ := hq
  refine W.eq (g2 := F0 m 1037 ls [.int (r), .int (r)]) rfl ?_
  refine lv_icmp_eq (tgt := 1111) hx hb dL_law_1037 (by decide) (fun c_1 => ?_) (fun c_1 => ?_)
  · have _h := c_1
    exact cont md2 rc2 RF2 cr2 T2 Z2 pg2 R2 P2 Hd2 HA2 Lo2 Ol2 AS2 hR2 H locs hP hD hS ls hl
  · exact absurd rfl c_1
set_option maxHeartbeats 4000000 in
set_option maxRecDepth 100000 in
theorem lc_remove (hL : L ≤ 2560) (C0 : lw_At p s m meth c b L xs) (hK : pw_K D cI cP cR s) (hro : ∀ i j, i < 3 → j < 3 → ro i = ro j → i = j) (h5 : 5 * kk + 5 ≤ L) (hR : Rel kk md rc RF cr T Z pg R P Hd HA Lo Ol) (cont : ∀ (md2 : Nat) (rc2 RF2 : Nat → Int32) (cr2 : Nat → Nat × Nat × (Nat → Int32)) (T2 : Nat → Nat → Int32) (Z2 : Nat → Nat) (pg2 : Nat → PgT) (R2 P2 Hd2 HA2 Lo2 Ol2 AS2 : Nat → Int32), Rel (kk + 1) md2 rc2 RF2 cr2 T2 Z2 pg2 R2 P2 Hd2 HA2 Lo2 Ol2 → ∀ (H : Heap) (locs : List Loc), va_P D vwCl (cW cI cP cR h qr qp ro ao po md2 rc2 cr2 pg2 ++ mW cI x t z rf rwa pl hd ha lo ol asa md2 T2 Z2 RF2 R2 P2 Hd2 HA2 Lo2 Ol2 AS2) H → va_D (fun q : Nat => s.heap.size ≤ q) (cW cI cP cR h qr qp ro ao po md2 rc2 cr2 pg2 ++ mW cI x t z rf rwa pl hd ha lo ol asa md2 T2 Z2 RF2 R2 P2 Hd2 HA2 Lo2 Ol2 AS2) → va_S (fun q : Nat => s.heap.size ≤ q) s.heap H locs → ∀ ls : Array Slot, lv_has ls 4 [(3, .int (nI (5 * kk))), (0, .ref b), (1, .ref h), (2, .ref x)] → W p l e room_1 s m #[Value.ref b] below meth c H locs 24 525 (lw_Z below #[Value.ref b] s) (F0 m 1111 ls [])) : ∀ (H : Heap) (locs : List Loc), va_P D vwCl (cW cI cP cR h qr qp ro ao po md rc cr pg ++ mW cI x t z rf rwa pl hd ha lo ol asa md T Z RF R P Hd HA Lo Ol AS) H → va_D (fun q : Nat => s.heap.size ≤ q) (cW cI cP cR h qr qp ro ao po md rc cr pg ++ mW cI x t z rf rwa pl hd ha lo ol asa md T Z RF R P Hd HA Lo Ol AS) → va_S (fun q : Nat => s.heap.size ≤ q) s.heap H locs → ∀ ls : Array Slot, lv_has ls 4 [(3, .int (nI (5 * kk))), (0, .ref b), (1, .ref h), (2, .ref x)] → W p l e room_1 s m #[Value.ref b] below meth c H locs 24 525 (lw_Z below #[Value.ref b] s) (F0 m 1042 ls []) := by
  obtain ⟨hx, hb, hr, hml, hown, hts, hX, hbl, hlocks, hgv⟩ := C0
  have htl : ∀ w ∈ wsL_law, w.before #[Value.ref b] s = true := fun w hw => hts w (wsL_law_in w hw)
  have hA : ∀ q : Nat, s.heap.size ≤ q → (fun q : Nat => s.heap.size ≤ q) q := fun _ h => h
  have hbA : ¬ (fun q : Nat => s.heap.size ≤ q) b := Nat.not_le.mpr hbl
  intro H locs hP hD hS ls hl
  refine lv_aload_n hx hb dL_law_1042 rfl (lv_at hl 2 rfl) ?_
  refine lv_aload_n hx hb dL_law_1043 rfl (lv_at hl 1 rfl) ?_
  refine lv_iload_n hx hb dL_law_1044 rfl (lv_at hl 0 rfl) ?_
  refine lv_iconst (v := nI 1) hx hb dL_law_1045 (by decide) ?_
  refine pw_iadd hx hb dL_law_1046 ?_
  refine pw_sld hx hb hX hbl hbA hS (show (5 * kk) + 1 < L by omega) (by omega) dL_law_1047 ?_
  obtain ⟨r, md2, rc2, RF2, cr2, T2, Z2, pg2, R2, P2, Hd2, HA2, Lo2, Ol2, AS2, hR2, hC, hM⟩ := sim_remove (l := l) (D := D) (cI := cI) (cP := cP) (cR := cR) (h := h) (qr := qr) (qp := qp) (ro := ro) (ao := ao) (po := po) (x := x) (t := t) (z := z) (rf := rf) (rwa := rwa) (pl := pl) (hd := hd) (ha := ha) (lo := lo) (ol := ol) (asa := asa) (AS := AS) (by omega) hro hR (xs ((5 * kk) + 1))
  refine pw_cVm (Ts := wsL_law) (own := RL) (C := RX2) (As := [.int (xs ((5 * kk) + 1))]) (rest := []) (wc := cW cI cP cR h qr qp ro ao po md rc cr pg) (wr := mW cI x t z rf rwa pl hd ha lo ol asa md T Z RF R P Hd HA Lo Ol AS) ⟨hx, hb, hml, hown, htl⟩ hC (cwV 1 htl gL_law_X2_remove rfl rfl rfl (by decide +kernel) ⟨Nat.le_of_ble_eq_true rfl, Nat.le_of_ble_eq_true rfl⟩) hK hP hD hS hA [0, 1, 2, 3, 4, 5, 6, 7, 8, 9, 10, 11, 12] [13, 14, 15, 16, 17, 18, 19, 20, 21, 22, 23] rfl rfl (by decide) (by decide) (by decide) 0 (ci := 2) rfl rfl rfl rfl hl.1 rfl (Nat.le_of_ble_eq_true rfl) dL_law_1048 ⟨Nat.le_of_ble_eq_true rfl, Nat.le_of_ble_eq_true rfl⟩ (fun v1 w1 H locs hq hP hD hS => ?_)
  obtain ⟨rfl, rfl⟩ := hq
  refine W.eq (g2 := F0 m 1051 ls [.int (r)]) rfl ?_
  refine lv_aload_n hx hb dL_law_1051 rfl (lv_at hl 3 rfl) ?_
  refine lv_aload_n hx hb dL_law_1052 rfl (lv_at hl 1 rfl) ?_
  refine lv_iload_n hx hb dL_law_1053 rfl (lv_at hl 0 rfl) ?_
  refine lv_iconst (v := nI 1) hx hb dL_law_1054 (by decide) ?_
  refine pw_iadd hx hb dL_law_1055 ?_
  refine pw_sld hx hb hX hbl hbA hS (show (5 * kk) + 1 < L by omega) (by omega) dL_law_1056 ?_
  refine pw_cVm (Ts := wsL_law) (own := RL) (C := RX3) (As := [.int (xs ((5 * kk) + 1))]) (rest := [.int (r)]) (wc := mW cI x t z rf rwa pl hd ha lo ol asa md T Z RF R P Hd HA Lo Ol AS) (wr := cW cI cP cR h qr qp ro ao po md2 rc2 cr2 pg2) ⟨hx, hb, hml, hown, htl⟩ hM (cwV 1 htl gL_law_X3_remove rfl rfl rfl (by decide +kernel) ⟨Nat.le_of_ble_eq_true rfl, Nat.le_of_ble_eq_true rfl⟩) hK hP hD hS hA [0, 1, 2, 3, 4, 5, 6, 7, 8, 9, 10] [11, 12, 13, 14, 15, 16, 17, 18, 19, 20, 21, 22, 23] rfl rfl (by decide) (by decide) (by decide) 0 (ci := 3) rfl rfl rfl rfl hl.1 rfl (Nat.le_of_ble_eq_true rfl) dL_law_1057 ⟨Nat.le_of_ble_eq_true rfl, Nat.le_of_ble_eq_true rfl⟩ (fun v1 w1 H locs hq hP hD hS => ?_)
  obtain ⟨rfl, rfl⟩ := hq
  refine W.eq (g2 := F0 m 1060 ls [.int (r), .int (r)]) rfl ?_
  refine lv_icmp_eq (tgt := 1111) hx hb dL_law_1060 (by decide) (fun c_1 => ?_) (fun c_1 => ?_)
  · have _h := c_1
    exact cont md2 rc2 RF2 cr2 T2 Z2 pg2 R2 P2 Hd2 HA2 Lo2 Ol2 AS2 hR2 H locs hP hD hS ls hl
  · exact absurd rfl c_1
set_option maxHeartbeats 4000000 in
set_option maxRecDepth 100000 in
theorem lc_old (hL : L ≤ 2560) (C0 : lw_At p s m meth c b L xs) (hK : pw_K D cI cP cR s) (hro : ∀ i j, i < 3 → j < 3 → ro i = ro j → i = j) (h5 : 5 * kk + 5 ≤ L) (hR : Rel kk md rc RF cr T Z pg R P Hd HA Lo Ol) (cont : ∀ (md2 : Nat) (rc2 RF2 : Nat → Int32) (cr2 : Nat → Nat × Nat × (Nat → Int32)) (T2 : Nat → Nat → Int32) (Z2 : Nat → Nat) (pg2 : Nat → PgT) (R2 P2 Hd2 HA2 Lo2 Ol2 AS2 : Nat → Int32), Rel (kk + 1) md2 rc2 RF2 cr2 T2 Z2 pg2 R2 P2 Hd2 HA2 Lo2 Ol2 → ∀ (H : Heap) (locs : List Loc), va_P D vwCl (cW cI cP cR h qr qp ro ao po md2 rc2 cr2 pg2 ++ mW cI x t z rf rwa pl hd ha lo ol asa md2 T2 Z2 RF2 R2 P2 Hd2 HA2 Lo2 Ol2 AS2) H → va_D (fun q : Nat => s.heap.size ≤ q) (cW cI cP cR h qr qp ro ao po md2 rc2 cr2 pg2 ++ mW cI x t z rf rwa pl hd ha lo ol asa md2 T2 Z2 RF2 R2 P2 Hd2 HA2 Lo2 Ol2 AS2) → va_S (fun q : Nat => s.heap.size ≤ q) s.heap H locs → ∀ ls : Array Slot, lv_has ls 4 [(3, .int (nI (5 * kk))), (0, .ref b), (1, .ref h), (2, .ref x)] → W p l e room_1 s m #[Value.ref b] below meth c H locs 24 525 (lw_Z below #[Value.ref b] s) (F0 m 1111 ls [])) : ∀ (H : Heap) (locs : List Loc), va_P D vwCl (cW cI cP cR h qr qp ro ao po md rc cr pg ++ mW cI x t z rf rwa pl hd ha lo ol asa md T Z RF R P Hd HA Lo Ol AS) H → va_D (fun q : Nat => s.heap.size ≤ q) (cW cI cP cR h qr qp ro ao po md rc cr pg ++ mW cI x t z rf rwa pl hd ha lo ol asa md T Z RF R P Hd HA Lo Ol AS) → va_S (fun q : Nat => s.heap.size ≤ q) s.heap H locs → ∀ ls : Array Slot, lv_has ls 4 [(3, .int (nI (5 * kk))), (0, .ref b), (1, .ref h), (2, .ref x)] → W p l e room_1 s m #[Value.ref b] below meth c H locs 24 525 (lw_Z below #[Value.ref b] s) (F0 m 1065 ls []) := by
  obtain ⟨hx, hb, hr, hml, hown, hts, hX, hbl, hlocks, hgv⟩ := C0
  have htl : ∀ w ∈ wsL_law, w.before #[Value.ref b] s = true := fun w hw => hts w (wsL_law_in w hw)
  have hA : ∀ q : Nat, s.heap.size ≤ q → (fun q : Nat => s.heap.size ≤ q) q := fun _ h => h
  have hbA : ¬ (fun q : Nat => s.heap.size ≤ q) b := Nat.not_le.mpr hbl
  intro H locs hP hD hS ls hl
  refine lv_aload_n hx hb dL_law_1065 rfl (lv_at hl 2 rfl) ?_
  refine lv_aload_n hx hb dL_law_1066 rfl (lv_at hl 1 rfl) ?_
  refine lv_iload_n hx hb dL_law_1067 rfl (lv_at hl 0 rfl) ?_
  refine lv_iconst (v := nI 1) hx hb dL_law_1068 (by decide) ?_
  refine pw_iadd hx hb dL_law_1069 ?_
  refine pw_sld hx hb hX hbl hbA hS (show (5 * kk) + 1 < L by omega) (by omega) dL_law_1070 ?_
  obtain ⟨r, md2, rc2, RF2, cr2, T2, Z2, pg2, R2, P2, Hd2, HA2, Lo2, Ol2, AS2, hR2, hC, hM⟩ := sim_old (l := l) (D := D) (cI := cI) (cP := cP) (cR := cR) (h := h) (qr := qr) (qp := qp) (ro := ro) (ao := ao) (po := po) (x := x) (t := t) (z := z) (rf := rf) (rwa := rwa) (pl := pl) (hd := hd) (ha := ha) (lo := lo) (ol := ol) (asa := asa) (AS := AS) (by omega) hro hR (xs ((5 * kk) + 1))
  refine pw_cVm (Ts := wsL_law) (own := RL) (C := RX2) (As := [.int (xs ((5 * kk) + 1))]) (rest := []) (wc := cW cI cP cR h qr qp ro ao po md rc cr pg) (wr := mW cI x t z rf rwa pl hd ha lo ol asa md T Z RF R P Hd HA Lo Ol AS) ⟨hx, hb, hml, hown, htl⟩ hC (cwV 1 htl gL_law_X2_old rfl rfl rfl (by decide +kernel) ⟨Nat.le_of_ble_eq_true rfl, Nat.le_of_ble_eq_true rfl⟩) hK hP hD hS hA [0, 1, 2, 3, 4, 5, 6, 7, 8, 9, 10, 11, 12] [13, 14, 15, 16, 17, 18, 19, 20, 21, 22, 23] rfl rfl (by decide) (by decide) (by decide) 0 (ci := 2) rfl rfl rfl rfl hl.1 rfl (Nat.le_of_ble_eq_true rfl) dL_law_1071 ⟨Nat.le_of_ble_eq_true rfl, Nat.le_of_ble_eq_true rfl⟩ (fun v1 w1 H locs hq hP hD hS => ?_)
  obtain ⟨rfl, rfl⟩ := hq
  refine W.eq (g2 := F0 m 1074 ls [.int (r)]) rfl ?_
  refine lv_aload_n hx hb dL_law_1074 rfl (lv_at hl 3 rfl) ?_
  refine lv_aload_n hx hb dL_law_1075 rfl (lv_at hl 1 rfl) ?_
  refine lv_iload_n hx hb dL_law_1076 rfl (lv_at hl 0 rfl) ?_
  refine lv_iconst (v := nI 1) hx hb dL_law_1077 (by decide) ?_
  refine pw_iadd hx hb dL_law_1078 ?_
  refine pw_sld hx hb hX hbl hbA hS (show (5 * kk) + 1 < L by omega) (by omega) dL_law_1079 ?_
  refine pw_cVm (Ts := wsL_law) (own := RL) (C := RX3) (As := [.int (xs ((5 * kk) + 1))]) (rest := [.int (r)]) (wc := mW cI x t z rf rwa pl hd ha lo ol asa md T Z RF R P Hd HA Lo Ol AS) (wr := cW cI cP cR h qr qp ro ao po md2 rc2 cr2 pg2) ⟨hx, hb, hml, hown, htl⟩ hM (cwV 1 htl gL_law_X3_old rfl rfl rfl (by decide +kernel) ⟨Nat.le_of_ble_eq_true rfl, Nat.le_of_ble_eq_true rfl⟩) hK hP hD hS hA [0, 1, 2, 3, 4, 5, 6, 7, 8, 9, 10] [11, 12, 13, 14, 15, 16, 17, 18, 19, 20, 21, 22, 23] rfl rfl (by decide) (by decide) (by decide) 0 (ci := 3) rfl rfl rfl rfl hl.1 rfl (Nat.le_of_ble_eq_true rfl) dL_law_1080 ⟨Nat.le_of_ble_eq_true rfl, Nat.le_of_ble_eq_true rfl⟩ (fun v1 w1 H locs hq hP hD hS => ?_)
  obtain ⟨rfl, rfl⟩ := hq
  refine W.eq (g2 := F0 m 1083 ls [.int (r), .int (r)]) rfl ?_
  refine lv_icmp_eq (tgt := 1111) hx hb dL_law_1083 (by decide) (fun c_1 => ?_) (fun c_1 => ?_)
  · have _h := c_1
    exact cont md2 rc2 RF2 cr2 T2 Z2 pg2 R2 P2 Hd2 HA2 Lo2 Ol2 AS2 hR2 H locs hP hD hS ls hl
  · exact absurd rfl c_1
set_option maxHeartbeats 4000000 in
set_option maxRecDepth 100000 in
theorem lc_count (hL : L ≤ 2560) (C0 : lw_At p s m meth c b L xs) (hK : pw_K D cI cP cR s) (hro : ∀ i j, i < 3 → j < 3 → ro i = ro j → i = j) (h5 : 5 * kk + 5 ≤ L) (hR : Rel kk md rc RF cr T Z pg R P Hd HA Lo Ol) (cont : ∀ (md2 : Nat) (rc2 RF2 : Nat → Int32) (cr2 : Nat → Nat × Nat × (Nat → Int32)) (T2 : Nat → Nat → Int32) (Z2 : Nat → Nat) (pg2 : Nat → PgT) (R2 P2 Hd2 HA2 Lo2 Ol2 AS2 : Nat → Int32), Rel (kk + 1) md2 rc2 RF2 cr2 T2 Z2 pg2 R2 P2 Hd2 HA2 Lo2 Ol2 → ∀ (H : Heap) (locs : List Loc), va_P D vwCl (cW cI cP cR h qr qp ro ao po md2 rc2 cr2 pg2 ++ mW cI x t z rf rwa pl hd ha lo ol asa md2 T2 Z2 RF2 R2 P2 Hd2 HA2 Lo2 Ol2 AS2) H → va_D (fun q : Nat => s.heap.size ≤ q) (cW cI cP cR h qr qp ro ao po md2 rc2 cr2 pg2 ++ mW cI x t z rf rwa pl hd ha lo ol asa md2 T2 Z2 RF2 R2 P2 Hd2 HA2 Lo2 Ol2 AS2) → va_S (fun q : Nat => s.heap.size ≤ q) s.heap H locs → ∀ ls : Array Slot, lv_has ls 4 [(3, .int (nI (5 * kk))), (0, .ref b), (1, .ref h), (2, .ref x)] → W p l e room_1 s m #[Value.ref b] below meth c H locs 24 525 (lw_Z below #[Value.ref b] s) (F0 m 1111 ls [])) : ∀ (H : Heap) (locs : List Loc), va_P D vwCl (cW cI cP cR h qr qp ro ao po md rc cr pg ++ mW cI x t z rf rwa pl hd ha lo ol asa md T Z RF R P Hd HA Lo Ol AS) H → va_D (fun q : Nat => s.heap.size ≤ q) (cW cI cP cR h qr qp ro ao po md rc cr pg ++ mW cI x t z rf rwa pl hd ha lo ol asa md T Z RF R P Hd HA Lo Ol AS) → va_S (fun q : Nat => s.heap.size ≤ q) s.heap H locs → ∀ ls : Array Slot, lv_has ls 4 [(3, .int (nI (5 * kk))), (0, .ref b), (1, .ref h), (2, .ref x)] → W p l e room_1 s m #[Value.ref b] below meth c H locs 24 525 (lw_Z below #[Value.ref b] s) (F0 m 1088 ls []) := by
  obtain ⟨hx, hb, hr, hml, hown, hts, hX, hbl, hlocks, hgv⟩ := C0
  have htl : ∀ w ∈ wsL_law, w.before #[Value.ref b] s = true := fun w hw => hts w (wsL_law_in w hw)
  have hA : ∀ q : Nat, s.heap.size ≤ q → (fun q : Nat => s.heap.size ≤ q) q := fun _ h => h
  have hbA : ¬ (fun q : Nat => s.heap.size ≤ q) b := Nat.not_le.mpr hbl
  intro H locs hP hD hS ls hl
  refine lv_aload_n hx hb dL_law_1088 rfl (lv_at hl 2 rfl) ?_
  refine lv_aload_n hx hb dL_law_1089 rfl (lv_at hl 1 rfl) ?_
  refine lv_iload_n hx hb dL_law_1090 rfl (lv_at hl 0 rfl) ?_
  refine lv_iconst (v := nI 1) hx hb dL_law_1091 (by decide) ?_
  refine pw_iadd hx hb dL_law_1092 ?_
  refine pw_sld hx hb hX hbl hbA hS (show (5 * kk) + 1 < L by omega) (by omega) dL_law_1093 ?_
  obtain ⟨r, md2, rc2, RF2, cr2, T2, Z2, pg2, R2, P2, Hd2, HA2, Lo2, Ol2, AS2, hR2, hC, hM⟩ := sim_count (l := l) (D := D) (cI := cI) (cP := cP) (cR := cR) (h := h) (qr := qr) (qp := qp) (ro := ro) (ao := ao) (po := po) (x := x) (t := t) (z := z) (rf := rf) (rwa := rwa) (pl := pl) (hd := hd) (ha := ha) (lo := lo) (ol := ol) (asa := asa) (AS := AS) (by omega) hro hR (xs ((5 * kk) + 1))
  refine pw_cVm (Ts := wsL_law) (own := RL) (C := RX2) (As := [.int (xs ((5 * kk) + 1))]) (rest := []) (wc := cW cI cP cR h qr qp ro ao po md rc cr pg) (wr := mW cI x t z rf rwa pl hd ha lo ol asa md T Z RF R P Hd HA Lo Ol AS) ⟨hx, hb, hml, hown, htl⟩ hC (cwV 1 htl gL_law_X2_count rfl rfl rfl (by decide +kernel) ⟨Nat.le_of_ble_eq_true rfl, Nat.le_of_ble_eq_true rfl⟩) hK hP hD hS hA [0, 1, 2, 3, 4, 5, 6, 7, 8, 9, 10, 11, 12] [13, 14, 15, 16, 17, 18, 19, 20, 21, 22, 23] rfl rfl (by decide) (by decide) (by decide) 0 (ci := 2) rfl rfl rfl rfl hl.1 rfl (Nat.le_of_ble_eq_true rfl) dL_law_1094 ⟨Nat.le_of_ble_eq_true rfl, Nat.le_of_ble_eq_true rfl⟩ (fun v1 w1 H locs hq hP hD hS => ?_)
  obtain ⟨rfl, rfl⟩ := hq
  refine W.eq (g2 := F0 m 1097 ls [.int (r)]) rfl ?_
  refine lv_aload_n hx hb dL_law_1097 rfl (lv_at hl 3 rfl) ?_
  refine lv_aload_n hx hb dL_law_1098 rfl (lv_at hl 1 rfl) ?_
  refine lv_iload_n hx hb dL_law_1099 rfl (lv_at hl 0 rfl) ?_
  refine lv_iconst (v := nI 1) hx hb dL_law_1100 (by decide) ?_
  refine pw_iadd hx hb dL_law_1101 ?_
  refine pw_sld hx hb hX hbl hbA hS (show (5 * kk) + 1 < L by omega) (by omega) dL_law_1102 ?_
  refine pw_cVm (Ts := wsL_law) (own := RL) (C := RX3) (As := [.int (xs ((5 * kk) + 1))]) (rest := [.int (r)]) (wc := mW cI x t z rf rwa pl hd ha lo ol asa md T Z RF R P Hd HA Lo Ol AS) (wr := cW cI cP cR h qr qp ro ao po md2 rc2 cr2 pg2) ⟨hx, hb, hml, hown, htl⟩ hM (cwV 1 htl gL_law_X3_count rfl rfl rfl (by decide +kernel) ⟨Nat.le_of_ble_eq_true rfl, Nat.le_of_ble_eq_true rfl⟩) hK hP hD hS hA [0, 1, 2, 3, 4, 5, 6, 7, 8, 9, 10] [11, 12, 13, 14, 15, 16, 17, 18, 19, 20, 21, 22, 23] rfl rfl (by decide) (by decide) (by decide) 0 (ci := 3) rfl rfl rfl rfl hl.1 rfl (Nat.le_of_ble_eq_true rfl) dL_law_1103 ⟨Nat.le_of_ble_eq_true rfl, Nat.le_of_ble_eq_true rfl⟩ (fun v1 w1 H locs hq hP hD hS => ?_)
  obtain ⟨rfl, rfl⟩ := hq
  refine W.eq (g2 := F0 m 1106 ls [.int (r), .int (r)]) rfl ?_
  refine lv_icmp_eq (tgt := 1111) hx hb dL_law_1106 (by decide) (fun c_1 => ?_) (fun c_1 => ?_)
  · have _h := c_1
    exact cont md2 rc2 RF2 cr2 T2 Z2 pg2 R2 P2 Hd2 HA2 Lo2 Ol2 AS2 hR2 H locs hP hD hS ls hl
  · exact absurd rfl c_1
end LAW
