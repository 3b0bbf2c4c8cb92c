/-! ===== counts, first places ===== -/
def cnt (p : Nat → Bool) : Nat → Nat
  | 0 => 0
  | n + 1 => cnt p n + (if p n = true then 1 else 0)
def fst (p : Nat → Bool) : Nat → Nat
  | 0 => 0
  | n + 1 => if fst p n < n then fst p n else if p n = true then n else n + 1
theorem cnt_le (p : Nat → Bool) : ∀ n, cnt p n ≤ n
  | 0 => Nat.le_refl 0
  | n + 1 => by
    have := cnt_le p n
    simp only [cnt]
    split <;> omega
theorem cnt_mono (p : Nat → Bool) {a b : Nat} (h : a ≤ b) : cnt p a ≤ cnt p b := by
  induction b with
  | zero => rw [Nat.le_zero.mp h]; exact Nat.le_refl _
  | succ b ih =>
    by_cases e : a = b + 1
    · rw [e]; exact Nat.le_refl _
    · have := ih (by omega)
      simp only [cnt]
      omega
theorem cnt_congr {p q : Nat → Bool} : ∀ {n : Nat}, (∀ k, k < n → p k = q k) → cnt p n = cnt q n
  | 0, _ => rfl
  | n + 1, h => by
    simp only [cnt]
    rw [cnt_congr (fun k hk => h k (by omega)), h n (by omega)]
theorem fst_le (p : Nat → Bool) : ∀ n, fst p n ≤ n
  | 0 => Nat.le_refl 0
  | n + 1 => by
    simp only [fst]
    have := fst_le p n
    split
    · omega
    · split <;> omega
theorem fst_no (p : Nat → Bool) : ∀ n k, k < fst p n → p k = false
  | 0, k, h => by simp [fst] at h
  | n + 1, k, h => by
    simp only [fst] at h
    have h1 := fst_le p n
    split at h
    · exact fst_no p n k h
    · split at h
      · by_cases e : k < fst p n
        · exact fst_no p n k e
        · omega
      · rename_i h2 h3
        by_cases e : k < fst p n
        · exact fst_no p n k e
        · have : k = n := by omega
          subst this
          simpa using h3
theorem fst_yes (p : Nat → Bool) : ∀ n, fst p n < n → p (fst p n) = true
  | 0, h => by simp [fst] at h
  | n + 1, h => by
    by_cases h1 : fst p n < n
    · have e : fst p (n + 1) = fst p n := by simp [fst, h1]
      rw [e]
      exact fst_yes p n h1
    · by_cases h2 : p n = true
      · have e : fst p (n + 1) = n := by simp [fst, h1, h2]
        rw [e]
        exact h2
      · have e : fst p (n + 1) = n + 1 := by simp [fst, h1, h2]
        omega
theorem fst_eq {p : Nat → Bool} {n k : Nat} (hk : k < n) (h1 : p k = true) (h2 : ∀ j, j < k → p j = false) : fst p n = k := by
  rcases Nat.lt_trichotomy (fst p n) k with h | h | h
  · have := fst_yes p n (by omega)
    rw [h2 _ h] at this
    cases this
  · exact h
  · have := fst_no p n k h
    rw [h1] at this
    cases this
theorem fst_none {p : Nat → Bool} {n : Nat} (h : ∀ j, j < n → p j = false) : fst p n = n := by
  by_cases e : fst p n < n
  · have := fst_yes p n e
    rw [h _ e] at this
    cases this
  · have := fst_le p n; omega
/-- words of a row of n characters f; where a word begins -/
def bl (f : Nat → Int32) : Nat → Bool := fun k => f k == nI 32
def nw (f : Nat → Int32) (n : Nat) : Nat := (if 0 < n then 1 else 0) + cnt (bl f) n
def beg (f : Nat → Int32) (n j : Nat) : Nat := fst (fun k => cnt (bl f) k == j) (n + 1)
/-- the end of the word that begins at b: the first blank from b on, or n -/
def enn (f : Nat → Int32) (n b : Nat) : Nat := b + fst (fun k => bl f (b + k)) (n - b)
abbrev nt (x : Int32) : Nat := x.toNatClampNeg
def ub (x : Int32) (b : Nat) : Prop := x = nI (nt x) ∧ nt x < b
theorem nt_nI {n : Nat} (h : n < 2147483648) : nt (nI n) = n := nI_clamp (by omega)
theorem ub_nI {n b : Nat} (h : n < b) (hb : b ≤ 2147483648) : ub (nI n) b := ⟨by rw [nt_nI (by omega)], by rw [nt_nI (by omega)]; exact h⟩
def sft (f : Nat → Int32) (a : Nat) : Nat → Int32 := fun k => f (a + k)
theorem nI_inj {a b : Nat} (ha : a < 2147483648) (hb : b < 2147483648) (h : nI a = nI b) : a = b := (nI_eqN ha hb).mp h
theorem nI_ne_neg {a : Nat} (ha : a < 2147483648) : nI a ≠ -1 := by
  intro h
  have h1 := nI_toInt (n := a) (by omega)
  rw [h] at h1
  have : (-1 : Int32).toInt = -1 := by decide
  omega
theorem nI_0le {a : Nat} (ha : a < 2147483648) : (0 : Int32) ≤ nI a := nI_pos' (by omega)
theorem nI_nlt0 {a : Nat} (ha : a < 2147483648) : ¬ nI a < (0 : Int32) := nI_pos (by omega)
theorem cnt_reach (p : Nat → Bool) : ∀ n j, j ≤ cnt p n → ∃ k, k ≤ n ∧ cnt p k = j
  | 0, j, h => ⟨0, Nat.le_refl 0, by simp [cnt] at *; omega⟩
  | n + 1, j, h => by
    by_cases e : j ≤ cnt p n
    · obtain ⟨k, h1, h2⟩ := cnt_reach p n j e
      exact ⟨k, by omega, h2⟩
    · refine ⟨n + 1, Nat.le_refl _, ?_⟩
      by_cases e2 : p n = true
      · simp only [cnt, e2, if_true] at h ⊢
        omega
      · simp only [cnt, e2] at h ⊢
        simp at h ⊢
        omega
theorem beg_spec {f : Nat → Int32} {n j : Nat} (h : j ≤ cnt (bl f) n) : beg f n j ≤ n ∧ cnt (bl f) (beg f n j) = j ∧ ∀ k, k < beg f n j → cnt (bl f) k < j := by
  obtain ⟨k, h1, h2⟩ := cnt_reach (bl f) n j h
  have hlt : beg f n j < n + 1 := by
    by_cases e : beg f n j < n + 1
    · exact e
    · have := fst_no (fun k => cnt (bl f) k == j) (n + 1) k (by show k < beg f n j; omega)
      simp [h2] at this
  have hy : cnt (bl f) (beg f n j) = j := by
    have this : (cnt (bl f) (beg f n j) == j) = true := fst_yes (fun k => cnt (bl f) k == j) (n + 1) hlt
    simpa using this
  refine ⟨by omega, hy, fun i hi => ?_⟩
  have h3 := fst_no (fun k => cnt (bl f) k == j) (n + 1) i hi
  have h4 : cnt (bl f) i ≤ cnt (bl f) (beg f n j) := cnt_mono _ (by omega)
  have h5 : cnt (bl f) i ≠ j := by simpa using h3
  omega
theorem enn_le {f : Nat → Int32} {n b : Nat} (h : b ≤ n) : b ≤ enn f n b ∧ enn f n b ≤ n := by
  have := fst_le (fun k => bl f (b + k)) (n - b)
  unfold enn
  omega
/-- whether all of the first n -/
def al (p : Nat → Bool) : Nat → Bool
  | 0 => true
  | n + 1 => al p n && p n
theorem al_iff (p : Nat → Bool) : ∀ n, al p n = true ↔ ∀ k, k < n → p k = true
  | 0 => by simp [al]
  | n + 1 => by
    simp only [al, Bool.and_eq_true, al_iff p n]
    constructor
    · rintro ⟨h1, h2⟩ k hk
      by_cases e : k = n
      · rw [e]; exact h2
      · exact h1 k (by omega)
    · intro h
      exact ⟨fun k hk => h k (by omega), h n (by omega)⟩
theorem al_mono {p : Nat → Bool} {a b : Nat} (h : a ≤ b) (hf : al p a = false) : al p b = false := by
  by_cases e : al p b = true
  · have := (al_iff p a).mpr (fun k hk => (al_iff p b).mp e k (by omega))
    rw [hf] at this
    cases this
  · simpa using e
/-- the word that begins at a in f, up to ae, is the one that begins at b in g, up to be -/
def weq (f g : Nat → Int32) (a ae b be : Nat) : Bool := (ae - a == be - b) && al (fun k => f (a + k) == g (b + k)) (ae - a)
/-- word i of f, n is word j of g, m -/
def same (f : Nat → Int32) (n i : Nat) (g : Nat → Int32) (m j : Nat) : Bool := weq f g (beg f n i) (enn f n (beg f n i)) (beg g m j) (enn g m (beg g m j))
/-- the last place of n that has p, as a number, or -1 -/
def lst (p : Nat → Bool) : Nat → Int32
  | 0 => -1
  | n + 1 => if p n = true then nI n else lst p n
def b2i (b : Bool) : Int32 := if b = true then nI 1 else nI 0
theorem wu_wu (w : Wd) (a : Nat) (x y : Cl) : wu (wu w a x) a y = wu w a y := by
  funext q
  simp only [wu]
  split <;> rfl
theorem wu_self {w : Wd} {a : Nat} {x : Cl} (h : w a = some x) : wu w a x = w := by
  funext q
  simp only [wu]
  split
  · rename_i e; rw [e, h]
  · rfl
theorem wu_comm (w : Wd) {a b : Nat} (x y : Cl) (h : a ≠ b) : wu (wu w a x) b y = wu (wu w b y) a x := by
  funext q
  simp only [wu]
  split
  · rename_i e
    rw [if_neg (by omega)]
  · rfl
/-- the reference's object: at o; its numbers s, its text, its table behind it -/
def MW (w : Wd) (o ns tn : Nat) (kp : Int32) (σ tx cm : Nat → Int32) : Prop := w o = some (ob 8 [.ref (o + 1), .int (nI ns), .int kp, .ref (o + 2), .int (nI tn), .ref (o + 3)]) ∧ w (o + 1) = some (ia 1 17088 σ) ∧ w (o + 2) = some (ia 0 60 tx) ∧ w (o + 3) = some (ia 1 961 cm)
theorem MW.st {w : Wd} {o ns tn : Nat} {kp : Int32} {σ tx cm : Nat → Int32} (h : MW w o ns tn kp σ tx cm) (σ' : Nat → Int32) : MW (wu w (o + 1) (ia 1 17088 σ')) o ns tn kp σ' tx cm :=
  ⟨(wu_ne w _ (by omega)).trans h.1, wu_eq w _ _, (wu_ne w _ (by omega)).trans h.2.2.1, (wu_ne w _ (by omega)).trans h.2.2.2⟩
theorem MW.self {w : Wd} {o ns tn : Nat} {kp : Int32} {σ tx cm : Nat → Int32} (h : MW w o ns tn kp σ tx cm) : wu w (o + 1) (ia 1 17088 σ) = w := wu_self h.2.1
