/-- counting down from 15: the lowest place with p among those looked at -/
def dnI (p : Nat → Bool) : Nat → Int32
  | 0 => -1
  | i + 1 => if p (15 - i) = true then nI (15 - i) else dnI p i
/-- the votes of the number x among the first i vote cells are taken away -/
def gv (σ : Nat → Int32) (x : Int32) (i : Nat) : Nat → Int32 := fun q => if 32 ≤ q ∧ q < 32 + i ∧ σ q = x then -1 else σ q
theorem gv_0 (σ : Nat → Int32) (x : Int32) : gv σ x 0 = σ := by
  funext q
  simp only [gv]
  rw [if_neg (by omega)]
theorem gv_at (σ : Nat → Int32) (x : Int32) (i : Nat) : gv σ x i (32 + i) = σ (32 + i) := by
  simp only [gv]
  rw [if_neg (by omega)]
theorem gv_out (σ : Nat → Int32) (x : Int32) {i q : Nat} (h : 32 + i ≤ q) : gv σ x i q = σ q := by
  simp only [gv]
  rw [if_neg (by omega)]
theorem gv_T {σ : Nat → Int32} {x : Int32} {i : Nat} (h : σ (32 + i) = x) : upd (gv σ x i) (32 + i) (-1) = gv σ x (i + 1) := by
  funext q
  simp only [upd, gv]
  by_cases e : q = 32 + i
  · subst e
    simp [h]
  · rw [if_neg e]
    by_cases h1 : 32 ≤ q ∧ q < 32 + i ∧ σ q = x
    · rw [if_pos h1, if_pos ⟨h1.1, by omega, h1.2.2⟩]
    · rw [if_neg h1, if_neg (fun z => h1 ⟨z.1, by omega, z.2.2⟩)]
theorem gv_F {σ : Nat → Int32} {x : Int32} {i : Nat} (h : ¬ σ (32 + i) = x) : upd (gv σ x i) (32 + i) (σ (32 + i)) = gv σ x (i + 1) := by
  funext q
  simp only [upd, gv]
  by_cases e : q = 32 + i
  · subst e
    simp [h]
  · rw [if_neg e]
    by_cases h1 : 32 ≤ q ∧ q < 32 + i ∧ σ q = x
    · rw [if_pos h1, if_pos ⟨h1.1, by omega, h1.2.2⟩]
    · rw [if_neg h1, if_neg (fun z => h1 ⟨z.1, by omega, z.2.2⟩)]
/-- the rewrite in place k is gone, and its votes -/
def gone (σ : Nat → Int32) (k : Nat) : Nat → Int32 := upd (gv σ (σ (1808 + 65 * k)) 240) (1808 + 65 * k) (-1)
/-- the first i cells of g laid from a on -/
def lay (σ g : Nat → Int32) (a i : Nat) : Nat → Int32 := fun q => if a ≤ q ∧ q < a + i then g (q - a) else σ q
theorem lay_0 (σ g : Nat → Int32) (a : Nat) : lay σ g a 0 = σ := by
  funext q
  simp only [lay]
  rw [if_neg (by omega)]
theorem lay_S (σ g : Nat → Int32) (a i : Nat) : upd (lay σ g a i) (a + i) (g i) = lay σ g a (i + 1) := by
  funext q
  simp only [upd, lay]
  by_cases e : q = a + i
  · subst e
    simp
  · rw [if_neg e]
    by_cases h1 : a ≤ q ∧ q < a + i
    · rw [if_pos h1, if_pos ⟨h1.1, by omega⟩]
    · rw [if_neg h1, if_neg (by omega)]
theorem lay_out {σ g : Nat → Int32} {a i q : Nat} (h : q < a ∨ a + i ≤ q) : lay σ g a i q = σ q := by
  simp only [lay]
  rw [if_neg (by omega)]
/-- letters, and what is allowed at place k of a text -/
def ltr (x : Int32) : Bool := decide (nI 97 ≤ x ∧ x ≤ nI 122)
def isw (f : Nat → Int32) : Nat → Bool
  | 0 => false
  | k + 1 => ltr (f k)
def okc (f : Nat → Int32) (k : Nat) : Bool := ltr (f k) || (bl f k && isw f k)
/-- the fault of a text, or -1 -/
def flt (f : Nat → Int32) (n : Nat) : Int32 := if fst (fun k => !okc f k) n < n then nI (fst (fun k => !okc f k) n) else if isw f n = true then -1 else nI n
/-- a text of words, without a fault -/
def okT (f : Nat → Int32) (n : Nat) : Prop := 0 < n ∧ (∀ k, k < n → okc f k = true) ∧ isw f n = true
def told (f g : Nat → Int32) (n m : Nat) : Bool := decide (n = m) && al (fun k => f k == g k) m
theorem b2i_T {b : Bool} (h : b = true) : nI 1 = b2i b := by rw [h]; rfl
theorem b2i_F {b : Bool} (h : b = false) : nI 0 = b2i b := by rw [h]; rfl
/-- a label that is too long -/
def cutB (σ : Nat → Int32) (p lim : Nat) : Bool := decide (lim < nw (sft σ (272 + 64 * p + 4)) (nt (σ (272 + 64 * p))))
def cutS (σ : Nat → Int32) (p lim : Nat) : Nat → Int32 := if cutB σ p lim = true then upd (upd (upd σ (272 + 64 * p) (nI (beg (sft σ (272 + 64 * p + 4)) (nt (σ (272 + 64 * p))) lim - 1))) (272 + 64 * p + 3) (σ (272 + 64 * p + 3) + 1)) 21 (σ 21 + 1) else σ
