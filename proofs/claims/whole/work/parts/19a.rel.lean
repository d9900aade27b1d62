/-! the relation of the class's state and the reference's, and what keeps it -/
def PegR (cr : Nat → Nat × Nat × (Nat → Int32)) (R P Hd HA Lo Ol : Int32) (g : PgT) : Prop :=
  (R = -1 ∧ g.1 = none ∧ Ol = nI 0) ∨ ∃ i, i < 3 ∧ R = nI i ∧ g.1 = some i ∧
    ((Ol = nI 1 ∧ g.2.2.1 < (cr i).2.1) ∨
     (Ol = nI 0 ∧ g.2.2.1 = (cr i).2.1 ∧ (∃ q, q ≤ (cr i).1 ∧ P = nI q ∧ g.2.1 = nI q) ∧ ((Lo = nI 1 ∧ g.2.2.2.2.2 = nI 1) ∨ (Lo = nI 0 ∧ g.2.2.2.2.2 = nI 0)) ∧
      ((Hd = -1 ∧ g.2.2.2.1 = -1) ∨ (∃ j, j < (cr i).1 ∧ HA = nI j ∧ g.2.2.2.1 = nI j ∧ ¬ Hd = -1 ∧ g.2.2.2.2.1 = Hd))))
def Rel (k md : Nat) (rc RF : Nat → Int32) (cr : Nat → Nat × Nat × (Nat → Int32)) (T : Nat → Nat → Int32) (Z : Nat → Nat) (pg : Nat → PgT) (R P Hd HA Lo Ol : Nat → Int32) : Prop :=
  md ≤ k ∧ (∀ q, q < 4 → rc q = RF q) ∧ (∀ i, i < 3 → (cr i).1 = Z i ∧ Z i ≤ 60 ∧ (cr i).2.1 ≤ k ∧ ∀ j, j < Z i → (cr i).2.2 j = T i j ∧ ¬ T i j = -1) ∧
  (∀ p, p < 4 → PegR cr (R p) (P p) (Hd p) (HA p) (Lo p) (Ol p) (pg p))
theorem va_up_s {α : Type} (f : Nat → α) (i : Nat) (v : α) : va_up f i v i = v := by unfold va_up; rw [if_pos rfl]
theorem va_up_o {α : Type} (f : Nat → α) {i j : Nat} (v : α) (h : ¬ j = i) : va_up f i v j = f j := by unfold va_up; rw [if_neg h]
section REL
variable {k md : Nat} {rc RF : Nat → Int32} {cr : Nat → Nat × Nat × (Nat → Int32)} {T : Nat → Nat → Int32} {Z : Nat → Nat} {pg : Nat → PgT} {R P Hd HA Lo Ol : Nat → Int32}
theorem Rel_up (h : Rel k md rc RF cr T Z pg R P Hd HA Lo Ol) : Rel (k + 1) md rc RF cr T Z pg R P Hd HA Lo Ol :=
  ⟨by have := h.1; omega, h.2.1, fun i hi => ⟨(h.2.2.1 i hi).1, (h.2.2.1 i hi).2.1, by have := (h.2.2.1 i hi).2.2.1; omega, (h.2.2.1 i hi).2.2.2⟩, h.2.2.2⟩
theorem Rel_ref (h : Rel k md rc RF cr T Z pg R P Hd HA Lo Ol) (q : Nat) (hq : q < 4) : Rel (k + 1) md (upd rc q (rc q + nI 1)) (upd RF q (RF q + nI 1)) cr T Z pg R P Hd HA Lo Ol := by
  have h2 := Rel_up h
  refine ⟨h2.1, fun a ha => ?_, h2.2.2⟩
  by_cases e : a = q
  · subst e; rw [upd_s, upd_s, h.2.1 a ha]
  · rw [upd_n _ _ e, upd_n _ _ e, h.2.1 a ha]
/-- pegs that have not changed, over rows of which one has been laid anew -/
theorem PegR_lay {i : Nat} {n c : Nat} {f : Nat → Int32} {r p hd ha lo ol : Int32} {g : PgT} (hn : (cr i).1 = n) (hc : (cr i).2.1 = c) (h : PegR cr r p hd ha lo ol g) : PegR (va_up cr i (n, c, f)) r p hd ha lo ol g := by
  rcases h with h | ⟨j, hj, h1, h2, h3⟩
  · exact Or.inl h
  · refine Or.inr ⟨j, hj, h1, h2, ?_⟩
    by_cases e : j = i
    · subst e; rw [va_up_s]; simp only; rw [← hn, ← hc]; exact h3
    · rw [va_up_o _ _ e]; exact h3
theorem Rel_lay (h : Rel k md rc RF cr T Z pg R P Hd HA Lo Ol) {i : Nat} (hi : i < 3) {md2 : Nat} (hmd : md2 ≤ k + 1) {f g : Nat → Int32} (hf : ∀ j, j < Z i → f j = g j ∧ ¬ g j = -1) :
    Rel (k + 1) md2 rc RF (va_up cr i (Z i, (cr i).2.1, f)) (upR T i g) Z pg R P Hd HA Lo Ol := by
  obtain ⟨h1, h2, h3, h4⟩ := Rel_up h
  refine ⟨hmd, h2, fun a ha => ?_, fun p hp => PegR_lay (h3 i hi).1 rfl (h4 p hp)⟩
  by_cases e : a = i
  · subst e; rw [va_up_s, upR_s]; exact ⟨rfl, (h3 a ha).2.1, (h3 a ha).2.2.1, hf⟩
  · rw [va_up_o _ _ e, upR_n _ _ e]; exact h3 a ha
/-- a row put into or taken from: its pegs but one are old -/
theorem PegR_age {i : Nat} {n : Nat} {f : Nat → Int32} {p : Nat} {bt : Int32} (h : PegR cr (R p) (P p) (Hd p) (HA p) (Lo p) (Ol p) (pg p)) (hp : p < 4) (hb : ¬ nI p = bt) (hi : i < 3) : PegR (va_up cr i (n, (cr i).2.1 + 1, f)) (R p) (P p) (Hd p) (HA p) (Lo p) (agF R Ol (nI i) bt p) (pg p) := by
  unfold agF agK
  rcases h with ⟨a, b, c⟩ | ⟨j, hj, h1, h2, h3⟩
  · rw [if_neg (fun q => by have := q.2.1; rw [a] at this; exact pw_nm1 (by omega) this.symm)]
    exact Or.inl ⟨a, b, c⟩
  · refine Or.inr ⟨j, hj, h1, h2, ?_⟩
    by_cases e : j = i
    · subst e
      rw [if_pos ⟨hp, h1, hb⟩, va_up_s]
      exact Or.inl ⟨rfl, by show (pg p).2.2.1 < (cr j).2.1 + 1; rcases h3 with h3 | h3 <;> omega⟩
    · rw [if_neg (fun q => e (by have := q.2.1; rw [h1] at this; exact (pw_eqN (by omega) (by omega)).mp this)), va_up_o _ _ e]
      exact h3
theorem Rel_row (h : Rel k md rc RF cr T Z pg R P Hd HA Lo Ol) {i : Nat} (hi : i < 3) {md2 n : Nat} (hmd : md2 ≤ k + 1) (hn : n ≤ 60) {f g : Nat → Int32} (hf : ∀ j, j < n → f j = g j ∧ ¬ g j = -1) :
    Rel (k + 1) md2 rc RF (va_up cr i (n, (cr i).2.1 + 1, f)) (upR T i g) (updN Z i n) pg R P Hd HA Lo (agF R Ol (nI i) (-1)) := by
  obtain ⟨h1, h2, h3, h4⟩ := h
  refine ⟨hmd, h2, fun a ha => ?_, fun p hp => PegR_age (h4 p hp) hp (pw_nm1 (by omega)) hi⟩
  by_cases e : a = i
  · subst e; rw [va_up_s, upR_s, updN_s]; exact ⟨rfl, hn, by have := (h3 a ha).2.2.1; simp only; omega, hf⟩
  · rw [va_up_o _ _ e, upR_n _ _ e, updN_n _ _ e]; exact ⟨(h3 a ha).1, (h3 a ha).2.1, by have := (h3 a ha).2.2.1; omega, (h3 a ha).2.2.2⟩
/-- one peg changed, over rows that are as they were -/
theorem Rel_peg (h : Rel k md rc RF cr T Z pg R P Hd HA Lo Ol) {p : Nat} {g : PgT} {R2 P2 Hd2 HA2 Lo2 Ol2 : Nat → Int32} (hg : PegR cr (R2 p) (P2 p) (Hd2 p) (HA2 p) (Lo2 p) (Ol2 p) g)
    (ho : ∀ q, ¬ q = p → R2 q = R q ∧ P2 q = P q ∧ Hd2 q = Hd q ∧ HA2 q = HA q ∧ Lo2 q = Lo q ∧ Ol2 q = Ol q) : Rel k md rc RF cr T Z (va_up pg p g) R2 P2 Hd2 HA2 Lo2 Ol2 := by
  obtain ⟨h1, h2, h3, h4⟩ := h
  refine ⟨h1, h2, h3, fun q hq => ?_⟩
  by_cases e : q = p
  · subst e; rw [va_up_s]; exact hg
  · obtain ⟨e1, e2, e3, e4, e5, e6⟩ := ho q e
    rw [va_up_o _ _ e, e1, e2, e3, e4, e5, e6]; exact h4 q hq
theorem Rel_rc (h : Rel k md rc RF cr T Z pg R P Hd HA Lo Ol) (q : Nat) (hq : q < 4) : Rel k md (upd rc q (rc q + nI 1)) (upd RF q (RF q + nI 1)) cr T Z pg R P Hd HA Lo Ol := by
  refine ⟨h.1, fun a ha => ?_, h.2.2⟩
  by_cases e : a = q
  · subst e; rw [upd_s, upd_s, h.2.1 a ha]
  · rw [upd_n _ _ e, upd_n _ _ e, h.2.1 a ha]
/-- a peg puts or takes: it goes on, the others of its row are old -/
theorem Rel_own (h : Rel k md rc RF cr T Z pg R P Hd HA Lo Ol) {p i : Nat} (hp : p < 4) (hi : i < 3) {md2 n : Nat} (hmd : md2 ≤ k + 1) (hn : n ≤ 60) {f t : Nat → Int32} (hf : ∀ j, j < n → f j = t j ∧ ¬ t j = -1) {pa ph pt pm : Int32} {P2 Hd2 HA2 Lo2 : Nat → Int32}
    (hR : R p = nI i) (hO : Ol p = nI 0) (hP : ∃ q, q ≤ n ∧ P2 p = nI q ∧ pa = nI q) (hL : Lo2 p = nI 0 ∧ pm = nI 0) (hH : Hd2 p = -1 ∧ ph = -1)
    (ho : ∀ q, ¬ q = p → P2 q = P q ∧ Hd2 q = Hd q ∧ HA2 q = HA q ∧ Lo2 q = Lo q) :
    Rel (k + 1) md2 rc RF (va_up cr i (n, (cr i).2.1 + 1, f)) (upR T i t) (updN Z i n) (va_up pg p (some i, pa, (cr i).2.1 + 1, ph, pt, pm)) R P2 Hd2 HA2 Lo2 (agF R Ol (nI i) (nI p)) := by
  obtain ⟨h1, h2, h3, h4⟩ := h
  refine ⟨hmd, h2, fun a ha => ?_, fun q hq => ?_⟩
  · by_cases e : a = i
    · subst e; rw [va_up_s, upR_s, updN_s]; exact ⟨rfl, hn, by have := (h3 a ha).2.2.1; simp only; omega, hf⟩
    · rw [va_up_o _ _ e, upR_n _ _ e, updN_n _ _ e]; exact ⟨(h3 a ha).1, (h3 a ha).2.1, by have := (h3 a ha).2.2.1; omega, (h3 a ha).2.2.2⟩
  · by_cases e : q = p
    · subst e
      rw [va_up_s]
      refine Or.inr ⟨i, hi, hR, rfl, Or.inr ⟨?_, ?_, ?_, Or.inr hL, Or.inl hH⟩⟩
      · unfold agF agK; rw [if_neg (fun z => z.2.2 rfl)]; exact hO
      · rw [va_up_s]
      · rw [va_up_s]; exact hP
    · obtain ⟨e1, e2, e3, e4⟩ := ho q e
      rw [va_up_o _ _ e, e1, e2, e3, e4]
      exact PegR_age (h4 q hq) hq (fun z => e ((pw_eqN (by omega) (by omega)).mp z)) hi
/-- a new list: the pegs that stood in it stand in none -/
theorem Rel_copy (h : Rel k md rc RF cr T Z pg R P Hd HA Lo Ol) {i : Nat} (hi : i < 3) {n : Nat} (hn : n ≤ 60) {f g : Nat → Int32} (hf : ∀ j, j < n → f j = g j ∧ ¬ g j = -1) :
    Rel (k + 1) md rc RF (va_up cr i (n, (cr i).2.1, f)) (upR T i g) (updN Z i n) (pgL pg i) (lvK R R (nI i) (-1) 4) P (lvK R Hd (nI i) (-1) 4) HA (lvK R Lo (nI i) (nI 0) 4) (lvK R Ol (nI i) (nI 0) 4) := by
  obtain ⟨h1, h2, h3, h4⟩ := h
  refine ⟨by omega, h2, fun a ha => ?_, fun p hp => ?_⟩
  · by_cases e : a = i
    · subst e; rw [va_up_s, upR_s, updN_s]; exact ⟨rfl, hn, by have := (h3 a ha).2.2.1; simp only; omega, hf⟩
    · rw [va_up_o _ _ e, upR_n _ _ e, updN_n _ _ e]; exact ⟨(h3 a ha).1, (h3 a ha).2.1, by have := (h3 a ha).2.2.1; omega, (h3 a ha).2.2.2⟩
  · have h5 := h4 p hp
    unfold lvK pgL
    by_cases e : R p = nI i
    · rw [if_pos ⟨hp, e⟩, if_pos ⟨hp, e⟩, if_pos ⟨hp, e⟩, if_pos ⟨hp, e⟩]
      refine Or.inl ⟨rfl, ?_, rfl⟩
      rcases h5 with ⟨a, -, -⟩ | ⟨j, hj, a, b, -⟩
      · exact absurd (e.symm.trans a) (pw_nm1 (by omega))
      · have : j = i := (pw_eqN (by omega) (by omega)).mp (a.symm.trans e)
        subst this
        simp only
        rw [if_pos b]
    · rw [if_neg (fun q => e q.2), if_neg (fun q => e q.2), if_neg (fun q => e q.2), if_neg (fun q => e q.2)]
      rcases h5 with ⟨a, b, c⟩ | ⟨j, hj, a, b, c⟩
      · refine Or.inl ⟨a, ?_, c⟩
        simp only
        rw [b]; simp
      · have hji : ¬ j = i := fun q => e (by rw [a, q])
        refine Or.inr ⟨j, hj, a, ?_, ?_⟩
        · simp only
          rw [b, if_neg (fun q => hji (Option.some.inj q))]
        · rw [va_up_o _ _ hji]; exact c
end REL
/-! rows that agree -/
theorem ag_ins {f t : Nat → Int32} {n q : Nat} {x : Int32} (h : ∀ j, j < n → f j = t j ∧ ¬ t j = -1) (hq : q ≤ n) (hx : ¬ x = -1) : ∀ j, j < n + 1 → upd (opn f q 1 n) q x j = upd (opn t q 1 n) q x j ∧ ¬ upd (opn t q 1 n) q x j = -1 := by
  intro j hj
  simp only [upd, opn]
  repeat' split
  all_goals first | (exfalso; omega) | exact ⟨rfl, hx⟩ | exact h _ (by omega)
theorem ag_cls {f t : Nat → Int32} {n q : Nat} (h : ∀ j, j < n → f j = t j ∧ ¬ t j = -1) (hq : q < n) : ∀ j, j < n - 1 → clsF f q n j = clsF t q n j ∧ ¬ clsF t q n j = -1 := by
  intro j hj
  simp only [clsF]
  repeat' split
  all_goals first | (exfalso; omega) | exact h _ (by omega)
theorem ag_upd {f t : Nat → Int32} {n q : Nat} {x : Int32} (h : ∀ j, j < n → f j = t j ∧ ¬ t j = -1) (hx : ¬ x = -1) : ∀ j, j < n → upd f q x j = upd t q x j ∧ ¬ upd t q x j = -1 := by
  intro j hj
  simp only [upd]
  repeat' split
  all_goals first | exact ⟨rfl, hx⟩ | exact h _ hj
theorem ag_all {f t g s : Nat → Int32} {n m q : Nat} (h : ∀ j, j < n → f j = t j ∧ ¬ t j = -1) (h2 : ∀ j, j < m → g j = s j ∧ ¬ s j = -1) (hq : q ≤ n) : ∀ j, j < n + m → putF (opn f q m n) q g m j = putF (opn t q m n) q s m j ∧ ¬ putF (opn t q m n) q s m j = -1 := by
  intro j hj
  simp only [putF, opn]
  repeat' split
  all_goals first | (exfalso; omega) | exact h _ (by omega) | exact h2 _ (by omega)
theorem ag_cpy {f t g s : Nat → Int32} {m : Nat} (h2 : ∀ j, j < m → g j = s j ∧ ¬ s j = -1) : ∀ j, j < m → putF f 0 g m j = putF t 0 s m j ∧ ¬ putF t 0 s m j = -1 := by
  intro j hj
  simp only [putF]
  repeat' split
  all_goals first | (exfalso; omega) | exact h2 _ (by omega)
theorem ag_tur {f t AS : Nat → Int32} {n : Nat} (h : ∀ j, j < n → f j = t j ∧ ¬ t j = -1) : ∀ j, j < n → turF f n j = putF t 0 (tnA AS t n n) n j ∧ ¬ putF t 0 (tnA AS t n n) n j = -1 := by
  intro j hj
  simp only [turF, putF, tnA]
  repeat' split
  all_goals first | (exfalso; omega) | exact h _ (by omega)
theorem plc_ag {f t : Nat → Int32} (nm la : Int32) : ∀ n, (∀ j, j < n → f j = t j ∧ ¬ t j = -1) → plc f nm la n = plc t nm la n
  | 0, _ => rfl
  | n + 1, h => by
    have ih := plc_ag nm la n (fun j hj => h j (by omega))
    show (if _ then _ else _) = (if _ then _ else _)
    rw [ih, (h n (by omega)).1]
theorem plc_lt (f : Nat → Int32) (nm la : Int32) : ∀ n, n ≤ 60 → plc f nm la n = -1 ∨ ∃ j, j < n ∧ plc f nm la n = nI j
  | 0, _ => Or.inl rfl
  | n + 1, h => by
    have e : plc f nm la (n + 1) = if remF (f n) (nI 10) = nm ∧ (¬ la = 0 ∨ plc f nm la n = -1) then nI n else plc f nm la n := rfl
    rw [e]
    split
    · exact Or.inr ⟨n, by omega, rfl⟩
    · rcases plc_lt f nm la n (by omega) with h1 | ⟨j, h1, h2⟩
      · exact Or.inl h1
      · exact Or.inr ⟨j, by omega, h2⟩
theorem smF_ag {f t : Nat → Int32} : ∀ n, (∀ j, j < n → f j = t j ∧ ¬ t j = -1) → smF f n = smF t n
  | 0, _ => rfl
  | n + 1, h => by
    have ih := smF_ag n (fun j hj => h j (by omega))
    show remF _ _ = remF _ _
    rw [ih, (h n (by omega)).1]
theorem prF_ag {f t : Nat → Int32} : ∀ n, (∀ j, j < n → f j = t j ∧ ¬ t j = -1) → (prF f n).1 = (prF t n).1 ∧ (prF f n).2.1 = (prF t n).2.1 ∧ ∀ j, j < (prF t n).1 → (prF f n).2.2 j = (prF t n).2.2 j ∧ ¬ (prF t n).2.2 j = -1
  | 0, _ => ⟨rfl, rfl, fun j hj => absurd hj (Nat.not_lt_zero j)⟩
  | n + 1, h => by
    obtain ⟨h1, h2, h3⟩ := prF_ag n (fun j hj => h j (by omega))
    have e := (h n (by omega))
    unfold prF
    rw [h1, h2, e.1]
    split
    · refine ⟨rfl, rfl, fun j hj => ?_⟩
      simp only at hj ⊢
      by_cases hx : j = (prF t n).1
      · subst hx; rw [upd_s, upd_s]; exact ⟨rfl, e.2⟩
      · rw [upd_n _ _ hx, upd_n _ _ hx]; exact h3 j (by omega)
    · exact ⟨h1, h2, h3⟩
def mvF (t s : Nat → Int32) (n m : Nat) : Nat → Int32 := fun j => if j < 2 * min n m then (if j % 2 = 0 then t (j / 2) else s (j / 2)) else if n ≤ m then s (j - n) else t (j - m)
theorem mgF_2 (t s : Nat → Int32) (n m : Nat) (AS : Nat → Int32) : ∀ k, ∀ j, j < min k n + min k m → (mgF t s n m AS k).2 j = mvF t s n m j
  | 0, j, h => by simp at h
  | k + 1, j, h => by
    have ih := mgF_2 t s n m AS k
    have e1 := mgF_1 t s n m AS k
    have step : ∀ (A : Nat → Int32) (q : Nat) (x : Int32), (∀ j, j < q → A j = mvF t s n m j) → x = mvF t s n m q → ∀ j, j < q + 1 → upd A q x j = mvF t s n m j := by
      intro A q x hA hx j hj
      by_cases e : j = q
      · subst e; rw [upd_s, hx]
      · rw [upd_n _ _ e]; exact hA j (by omega)
    have t1 : k < n → t k = mvF t s n m (min k n + min k m) := by
      intro hk
      unfold mvF
      by_cases hm : k < m
      · rw [if_pos (by omega), if_pos (by omega), show (min k n + min k m) / 2 = k by omega]
      · rw [if_neg (by omega), if_neg (by omega), show min k n + min k m - m = k by omega]
    have t2 : k < m → ∀ q, q = (if k < n then min k n + min k m + 1 else min k n + min k m) → s k = mvF t s n m q := by
      intro hk q hq
      unfold mvF
      by_cases hn : k < n
      · rw [if_pos hn] at hq
        rw [if_pos (by omega), if_neg (by omega), show q / 2 = k by omega]
      · rw [if_neg hn] at hq
        rw [if_neg (by omega), if_pos (by omega), show q - n = k by omega]
    unfold mgF
    simp only
    rw [e1]
    by_cases hn : k < n <;> by_cases hm : k < m
    · simp only [hn, hm, if_true]
      exact step _ _ _ (step _ _ _ ih (t1 hn)) (t2 hm _ (by rw [if_pos hn])) j (by omega)
    · simp only [hn, hm, if_true, if_false]
      exact step _ _ _ ih (t1 hn) j (by omega)
    · simp only [hn, hm, if_true, if_false]
      rw [e1]
      exact step _ _ _ ih (t2 hm _ (by rw [if_neg hn])) j (by omega)
    · simp only [hn, hm, if_false]
      exact ih j (by omega)
theorem ag_wv {f t g s AS : Nat → Int32} {n m : Nat} (h : ∀ j, j < n → f j = t j ∧ ¬ t j = -1) (h2 : ∀ j, j < m → g j = s j ∧ ¬ s j = -1) : ∀ j, j < n + m → wvF f g n m j = putF t 0 (mgF t s n m AS (max n m)).2 (n + m) j ∧ ¬ putF t 0 (mgF t s n m AS (max n m)).2 (n + m) j = -1 := by
  intro j hj
  have e : putF t 0 (mgF t s n m AS (max n m)).2 (n + m) j = mvF t s n m j := by
    unfold putF
    rw [if_pos (by omega), Nat.sub_zero]
    exact mgF_2 t s n m AS (max n m) j (by omega)
  rw [e]
  have e2 : wvF f g n m j = mvF t s n m j ∧ ¬ mvF t s n m j = -1 := by
    by_cases q : n ≤ m
    · simp only [wvF, w2F, putG, opn, mvF, Nat.min_eq_left q]
      repeat' split
      all_goals first | (exfalso; omega) | exact h _ (by omega) | exact h2 _ (by omega)
    · simp only [wvF, w2F, putG, opn, mvF, Nat.min_eq_right (show m ≤ n by omega)]
      repeat' split
      all_goals first | (exfalso; omega) | exact h _ (by omega) | exact h2 _ (by omega)
  exact e2
