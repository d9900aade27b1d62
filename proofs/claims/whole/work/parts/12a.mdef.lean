/-! the reference's arrays: its rows in one array, its sizes -/
def flT (T : Nat → Nat → Int32) : Nat → Int32 := fun k => T (k / 64) (k % 64)
def zI (Z : Nat → Nat) : Nat → Int32 := fun k => nI (Z k)
def updN (Z : Nat → Nat) (i v : Nat) : Nat → Nat := fun k => if k = i then v else Z k
def upR (T : Nat → Nat → Int32) (i : Nat) (g : Nat → Int32) : Nat → Nat → Int32 := fun k => if k = i then g else T k
theorem upR_s (T : Nat → Nat → Int32) (i : Nat) (g : Nat → Int32) : upR T i g i = g := by unfold upR; rw [if_pos rfl]
theorem upR_n (T : Nat → Nat → Int32) {i j : Nat} (g : Nat → Int32) (h : ¬ j = i) : upR T i g j = T j := by unfold upR; rw [if_neg h]
theorem upR_i (T : Nat → Nat → Int32) (i : Nat) : upR T i (T i) = T := by funext k; unfold upR; by_cases h : k = i <;> simp [h]
theorem upR_u (T : Nat → Nat → Int32) (i : Nat) (g g' : Nat → Int32) : upR (upR T i g) i g' = upR T i g' := by funext k; unfold upR; by_cases h : k = i <;> simp [h]
theorem updN_s (Z : Nat → Nat) (i v : Nat) : updN Z i v i = v := by unfold updN; rw [if_pos rfl]
theorem updN_n (Z : Nat → Nat) {i j : Nat} (v : Nat) (h : ¬ j = i) : updN Z i v j = Z j := by unfold updN; rw [if_neg h]
theorem updN_u (Z : Nat → Nat) (i v v' : Nat) : updN (updN Z i v) i v' = updN Z i v' := by funext k; unfold updN; by_cases h : k = i <;> simp [h]
theorem updN_i (Z : Nat → Nat) (i : Nat) : updN Z i (Z i) = Z := by funext k; unfold updN; by_cases h : k = i <;> simp [h]
theorem upd_s (f : Nat → Int32) (i : Nat) (v : Int32) : upd f i v i = v := pk_us
theorem upd_n (f : Nat → Int32) {i j : Nat} (v : Int32) (h : ¬ j = i) : upd f i v j = f j := pk_un h
theorem zI_upd (Z : Nat → Nat) (i v : Nat) : upd (zI Z) i (nI v) = zI (updN Z i v) := by funext k; unfold upd zI updN; by_cases h : k = i <;> simp [h]
theorem flT_at (T : Nat → Nat → Int32) (i k : Nat) (h : k < 64) : flT T (64 * i + k) = T i k := by
  unfold flT; rw [show (64 * i + k) / 64 = i by omega, show (64 * i + k) % 64 = k by omega]
theorem flT_upd (T : Nat → Nat → Int32) (i k : Nat) (x : Int32) (h : k < 64) : upd (flT T) (64 * i + k) x = flT (upR T i (upd (T i) k x)) := by
  funext j; unfold upd flT upR
  by_cases h1 : j = 64 * i + k
  · subst h1
    rw [if_pos rfl, show (64 * i + k) / 64 = i by omega, show (64 * i + k) % 64 = k by omega, if_pos rfl]
    simp
  · rw [if_neg h1]
    by_cases h2 : j / 64 = i
    · rw [if_pos h2]
      rw [if_neg (show ¬ j % 64 = k by omega), h2]
    · rw [if_neg h2]
theorem flT_upd2 (T : Nat → Nat → Int32) (i k : Nat) (g : Nat → Int32) (x : Int32) (h : k < 64) : upd (flT (upR T i g)) (64 * i + k) x = flT (upR T i (upd g k x)) := by
  rw [flT_upd _ _ _ _ h, upR_s, upR_u]
/-- all pegs of a row but one are old: done for the pegs ahead of k -/
def agK (R O : Nat → Int32) (row but : Int32) (k : Nat) : Nat → Int32 := fun p => if p < k ∧ R p = row ∧ ¬ nI p = but then nI 1 else O p
def agF (R O : Nat → Int32) (row but : Int32) : Nat → Int32 := agK R O row but 4
theorem agK_0 (R O : Nat → Int32) (row but : Int32) : agK R O row but 0 = O := by funext p; unfold agK; rw [if_neg (by omega)]
theorem agK_t (R O : Nat → Int32) (row but : Int32) (k : Nat) (h1 : R k = row) (h2 : ¬ nI k = but) : upd (agK R O row but k) k (nI 1) = agK R O row but (k + 1) := by
  funext p; unfold upd agK
  by_cases h : p = k
  · subst h; rw [if_pos rfl, if_pos ⟨by omega, h1, h2⟩]
  · rw [if_neg h]
    by_cases h3 : p < k ∧ R p = row ∧ ¬ nI p = but
    · rw [if_pos h3, if_pos ⟨by omega, h3.2⟩]
    · rw [if_neg h3, if_neg (fun q => h3 ⟨by omega, q.2⟩)]
theorem agK_f (R O : Nat → Int32) (row but : Int32) (k : Nat) (h1 : ¬ (R k = row ∧ ¬ nI k = but)) : upd (agK R O row but k) k (agK R O row but k k) = agK R O row but (k + 1) := by
  funext p; unfold upd agK
  by_cases h : p = k
  · subst h; rw [if_pos rfl, if_neg (by omega), if_neg (fun q => h1 q.2)]
  · rw [if_neg h]
    by_cases h3 : p < k ∧ R p = row ∧ ¬ nI p = but
    · rw [if_pos h3, if_pos ⟨by omega, h3.2⟩]
    · rw [if_neg h3, if_neg (fun q => h3 ⟨by omega, q.2⟩)]
theorem pw_lem1 {q : Int32} {n : Nat} (hn : n < 2147483648) : q ≤ nI n - nI 1 ↔ q < nI n := by
  rw [Int32.lt_iff_toInt_lt, Int32.le_iff_toInt_le, nI_toInt hn]
  cases n with
  | zero => rw [show nI 0 - nI 1 = -1 by decide]; simp; omega
  | succ n => rw [pw_n1, nI_pred, nI_toInt (by omega)]; omega
theorem pw_lt1 {q : Int32} {n : Nat} (hn : n < 2147483647) : q ≤ nI n ↔ q < nI (n + 1) := by
  rw [Int32.lt_iff_toInt_lt, Int32.le_iff_toInt_le, nI_toInt (by omega), nI_toInt (by omega)]; omega
/-- all of another row put in, thing by thing -/
theorem allF_s (f g : Nat → Int32) (q k n : Nat) (hq : q ≤ n) : upd (opn (putF (opn f q k n) q g k) (q + k) 1 (n + k)) (q + k) (g k) = putF (opn f q (k + 1) n) q g (k + 1) := by
  funext j
  simp only [upd, opn, putF]
  repeat' split
  all_goals first | (exfalso; omega) | rfl | (congr 1; omega)
theorem allF_0 (f g : Nat → Int32) (q n : Nat) : putF (opn f q 0 n) q g 0 = f := by
  rw [putF_0]; funext j; unfold opn; by_cases h : q + 0 ≤ j ∧ j < n + 0 <;> simp [h]
/-- the row turned round, laid aside up to k -/
def tnA (AS f : Nat → Int32) (n k : Nat) : Nat → Int32 := fun j => if j < k then f (n - 1 - j) else AS j
theorem tnA_0 (AS f : Nat → Int32) (n : Nat) : tnA AS f n 0 = AS := by funext j; unfold tnA; rw [if_neg (by omega)]
theorem tnA_s (AS f : Nat → Int32) (n k : Nat) : upd (tnA AS f n k) k (f (n - 1 - k)) = tnA AS f n (k + 1) := by
  funext j; unfold upd tnA
  by_cases h1 : j = k
  · subst h1; rw [if_pos rfl, if_pos (by omega)]
  · rw [if_neg h1]
    by_cases h2 : j < k
    · rw [if_pos h2, if_pos (by omega)]
    · rw [if_neg h2, if_neg (by omega)]
/-- two rows laid aside by turns -/
def mgF (f g : Nat → Int32) (n m : Nat) (AS : Nat → Int32) : Nat → Nat × (Nat → Int32)
  | 0 => (0, AS)
  | k + 1 =>
    let a := mgF f g n m AS k
    let b := if k < n then (a.1 + 1, upd a.2 a.1 (f k)) else a
    if k < m then (b.1 + 1, upd b.2 b.1 (g k)) else b
theorem mgF_1 (f g : Nat → Int32) (n m : Nat) (AS : Nat → Int32) : ∀ k, (mgF f g n m AS k).1 = min k n + min k m
  | 0 => by simp [mgF]
  | k + 1 => by
    have ih := mgF_1 f g n m AS k
    unfold mgF
    simp only
    by_cases h1 : k < n <;> by_cases h2 : k < m <;> simp only [h1, h2, if_true, if_false, ih] <;> omega
/-- what pegs of a row become when it is a new one -/
def lvK (R V : Nat → Int32) (row v : Int32) (k : Nat) : Nat → Int32 := fun p => if p < k ∧ R p = row then v else V p
theorem lvK_0 (R V : Nat → Int32) (row v : Int32) : lvK R V row v 0 = V := by funext p; unfold lvK; rw [if_neg (by omega)]
theorem lvK_t (R V : Nat → Int32) (row v : Int32) (k : Nat) (h : R k = row) : upd (lvK R V row v k) k v = lvK R V row v (k + 1) := by
  funext p; unfold upd lvK
  by_cases h1 : p = k
  · subst h1; rw [if_pos rfl, if_pos ⟨by omega, h⟩]
  · rw [if_neg h1]
    by_cases h2 : p < k ∧ R p = row
    · rw [if_pos h2, if_pos ⟨by omega, h2.2⟩]
    · rw [if_neg h2, if_neg (fun q => h2 ⟨by omega, q.2⟩)]
theorem lvK_f (R V : Nat → Int32) (row v : Int32) (k : Nat) (h : ¬ R k = row) : lvK R V row v k = lvK R V row v (k + 1) := by
  funext p; unfold lvK
  by_cases h2 : p < k ∧ R p = row
  · rw [if_pos h2, if_pos ⟨by omega, h2.2⟩]
  · rw [if_neg h2, if_neg (fun q => by
      by_cases h3 : p = k
      · exact h (h3 ▸ q.2)
      · exact h2 ⟨by omega, q.2⟩)]
theorem lvK_k (R V : Nat → Int32) (row v : Int32) (k : Nat) : lvK R V row v k k = V k := by unfold lvK; rw [if_neg (by omega)]
