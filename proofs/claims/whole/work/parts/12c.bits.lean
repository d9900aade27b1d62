/-! the first family of kit/laws/BITS.to-paste, pasted; and a bit asked two ways -/
def bt (x : Int32) (i : Nat) : Bool := x.toBitVec.getLsbD i
theorem b_ext {x y : Int32} (h : ∀ i, i < 32 → bt x i = bt y i) : x = y := Int32.toBitVec_inj.mp (BitVec.eq_of_getLsbD_eq (fun i hi => h i hi))
theorem b_or (x y : Int32) (i : Nat) : bt (x ||| y) i = (bt x i || bt y i) := by unfold bt; rw [Int32.toBitVec_or, BitVec.getLsbD_or]
theorem b_and (x y : Int32) (i : Nat) : bt (x &&& y) i = (bt x i && bt y i) := by unfold bt; rw [Int32.toBitVec_and, BitVec.getLsbD_and]
theorem b_xor (x y : Int32) (i : Nat) : bt (x ^^^ y) i = (bt x i ^^ bt y i) := by unfold bt; rw [Int32.toBitVec_xor, BitVec.getLsbD_xor]
theorem b_big {x : Int32} {i : Nat} (h : 32 ≤ i) : bt x i = false := BitVec.getLsbD_of_ge _ _ h
theorem b_255 (i : Nat) : bt 255 i = decide (i < 8) := by
  rcases Nat.lt_or_ge i 32 with h | h
  · exact (by decide +kernel : ∀ i, i < 32 → bt 255 i = decide (i < 8)) i h
  · rw [b_big h, decide_eq_false (by omega)]
theorem b_65535 (i : Nat) : bt 65535 i = decide (i < 16) := by
  rcases Nat.lt_or_ge i 32 with h | h
  · exact (by decide +kernel : ∀ i, i < 32 → bt 65535 i = decide (i < 16)) i h
  · rw [b_big h, decide_eq_false (by omega)]
theorem b_m1 : ∀ i, i < 32 → bt (-1) i = true := by decide +kernel
theorem b_0 (i : Nat) : bt 0 i = false := BitVec.getLsbD_zero
theorem s_l : ∀ n, n < 32 → ((nI n &&& 31).toBitVec.smod 32).toNat = n := by decide +kernel
theorem s_u : ∀ n, n < 32 → (((nI n).toUInt32 &&& Int32.toUInt32 31).toBitVec % 32).toNat = n := by decide +kernel
theorem b_shl (n : Nat) (hn : n < 32) (x : Int32) {i : Nat} (hi : i < 32) : bt (x <<< (nI n &&& 31)) i = (decide (n ≤ i) && bt x (i - n)) := by
  unfold bt
  rw [Int32.toBitVec_shiftLeft]
  show (x.toBitVec <<< ((nI n &&& 31).toBitVec.smod 32).toNat).getLsbD i = _
  rw [s_l n hn, BitVec.getLsbD_shiftLeft]
  rcases Nat.lt_or_ge i n with h | h
  · simp [h, Nat.not_le.mpr h]
  · simp [hi, h, Nat.not_lt.mpr h]
theorem b_ushr (n : Nat) (hn : n < 32) (x : Int32) (i : Nat) : bt ((x.toUInt32 >>> ((nI n).toUInt32 &&& Int32.toUInt32 31)).toInt32) i = bt x (n + i) := by
  show (x.toUInt32 >>> ((nI n).toUInt32 &&& Int32.toUInt32 31)).toBitVec.getLsbD i = x.toUInt32.toBitVec.getLsbD (n + i)
  rw [UInt32.toBitVec_shiftRight]
  show (x.toUInt32.toBitVec >>> (((nI n).toUInt32 &&& Int32.toUInt32 31).toBitVec % 32).toNat).getLsbD i = _
  rw [s_u n hn, BitVec.getLsbD_ushiftRight]
theorem b_sshr (n : Nat) (hn : n < 32) (x : Int32) {i : Nat} (hi : i < 32) : bt (x >>> (nI n &&& 31)) i = if n + i < 32 then bt x (n + i) else bt x 31 := by
  unfold bt
  rw [Int32.toBitVec_shiftRight]
  show (x.toBitVec.sshiftRight ((nI n &&& 31).toBitVec.smod 32).toNat).getLsbD i = _
  rw [s_l n hn, BitVec.getLsbD_sshiftRight, BitVec.msb_eq_getLsbD_last]
  simp [hi]
theorem bt_1 : ∀ i, i < 32 → bt (nI 1) i = decide (i = 0) := by decide +kernel
theorem sh_31 : ∀ n, n < 32 → nI n &&& 31 = nI n := by decide +kernel
theorem sh_amt (s : Int32) : ∃ n, n < 32 ∧ s &&& 31 = nI n &&& 31 := by
  obtain ⟨n, hn, e⟩ := pk_andE s (m := 31) 5 (by decide +kernel)
  exact ⟨n, hn, by rw [e, sh_31 n hn]⟩
theorem sh_b (n : Nat) (hn : n < 32) {i : Nat} (hi : i < 32) : bt (nI 1 <<< (nI n &&& 31)) i = decide (i = n) := by
  rw [b_shl n hn _ hi]
  by_cases h : n ≤ i
  · rw [bt_1 _ (by omega)]
    by_cases h2 : i = n
    · subst h2; simp
    · simp [h2, show ¬ i - n = 0 by omega]
  · simp [h, show ¬ i = n by omega]
theorem sh_c (x : Int32) (n : Nat) (hn : n < 32) : (x &&& (nI 1 <<< (nI n &&& 31))) = 0 ↔ bt x n = false := by
  constructor
  · intro h
    have h2 := congrArg (fun z => bt z n) h
    simp only [b_and, sh_b n hn hn, b_0] at h2
    simpa using h2
  · intro h
    refine b_ext (fun i hi => ?_)
    rw [b_and, sh_b n hn hi, b_0]
    by_cases h2 : i = n
    · subst h2; rw [h]; rfl
    · simp [h2]
theorem sh_bit (x s : Int32) : ((x >>> (s &&& 31)) &&& nI 1) = 0 ↔ (x &&& (nI 1 <<< (s &&& 31))) = 0 := by
  obtain ⟨n, hn, e⟩ := sh_amt s
  rw [e, sh_c x n hn]
  constructor
  · intro h
    have h2 := congrArg (fun z => bt z 0) h
    simp only [b_and, b_sshr n hn x (show 0 < 32 by decide), bt_1 0 (by decide), b_0, Nat.add_zero, hn, if_true] at h2
    simpa using h2
  · intro h
    refine b_ext (fun i hi => ?_)
    rw [b_and, b_0, bt_1 i hi]
    by_cases h2 : i = 0
    · subst h2; rw [b_sshr n hn x hi, if_pos (by omega), Nat.add_zero, h]; rfl
    · simp [h2]
theorem sh_or (x s : Int32) (h : ¬ (x &&& (nI 1 <<< (s &&& 31))) = 0) : x ||| (nI 1 <<< (s &&& 31)) = x := by
  obtain ⟨n, hn, e⟩ := sh_amt s
  rw [e] at h ⊢
  rw [sh_c x n hn] at h
  refine b_ext (fun i hi => ?_)
  rw [b_or, sh_b n hn hi]
  by_cases h2 : i = n
  · subst h2; simpa using h
  · simp [h2]
theorem pw_m1le {n : Nat} (h : n < 2147483648) : (-1 : Int32) ≤ nI n := by
  rw [Int32.le_iff_toInt_le, nI_toInt h]
  have e : (-1 : Int32).toInt = -1 := by decide
  rw [e]; omega
theorem pw_m1in {q : Int32} (h : -1 ≤ q) (h1 : ¬ q = -1) : 0 ≤ q := by
  rw [Int32.le_iff_toInt_le] at h ⊢
  have h2 : ¬ q.toInt = (-1 : Int32).toInt := fun z => h1 (Int32.toInt_inj.mp z)
  have e : (-1 : Int32).toInt = -1 := by decide
  have e0 : (0 : Int32).toInt = 0 := by decide
  rw [e] at h h2; rw [e0]; omega
