/-- counting down from 15: the lowest place with p among those looked at -/
def dnI (p : Nat → Bool) : Nat → Int32
  | 0 => -1
  | i + 1 => if p (15 - i) = true then nI (15 - i) else dnI p i
/-- the votes of the number x among the first i vote cells are taken away -/
def gv (σ : Nat → Int32) (x : Int32) (i : Nat) : Nat → Int32 := fun q => if 32 ≤ q ∧ q < 32 + i ∧ σ q = x then -1 else σ q
theorem gv_0 (σ : Nat → Int32) (x : Int32) : gv σ x 0 = σ := by
  funext q
  simp only [gv]
  rw [if_neg (by omega)]
theorem gv_at (σ : Nat → Int32) (x : Int32) (i : Nat) : gv σ x i (32 + i) = σ (32 + i) := by
  simp only [gv]
  rw [if_neg (by omega)]
theorem gv_out (σ : Nat → Int32) (x : Int32) {i q : Nat} (h : 32 + i ≤ q) : gv σ x i q = σ q := by
  simp only [gv]
  rw [if_neg (by omega)]
theorem gv_T {σ : Nat → Int32} {x : Int32} {i : Nat} (h : σ (32 + i) = x) : upd (gv σ x i) (32 + i) (-1) = gv σ x (i + 1) := by
  funext q
  simp only [upd, gv]
  by_cases e : q = 32 + i
  · subst e
    simp [h]
  · rw [if_neg e]
    by_cases h1 : 32 ≤ q ∧ q < 32 + i ∧ σ q = x
    · rw [if_pos h1, if_pos ⟨h1.1, by omega, h1.2.2⟩]
    · rw [if_neg h1, if_neg (fun z => h1 ⟨z.1, by omega, z.2.2⟩)]
theorem gv_F {σ : Nat → Int32} {x : Int32} {i : Nat} (h : ¬ σ (32 + i) = x) : upd (gv σ x i) (32 + i) (σ (32 + i)) = gv σ x (i + 1) := by
  funext q
  simp only [upd, gv]
  by_cases e : q = 32 + i
  · subst e
    simp [h]
  · rw [if_neg e]
    by_cases h1 : 32 ≤ q ∧ q < 32 + i ∧ σ q = x
    · rw [if_pos h1, if_pos ⟨h1.1, by omega, h1.2.2⟩]
    · rw [if_neg h1, if_neg (fun z => h1 ⟨z.1, by omega, z.2.2⟩)]
/-- the rewrite in place k is gone, and its votes -/
def gone (σ : Nat → Int32) (k : Nat) : Nat → Int32 := upd (gv σ (σ (1808 + 65 * k)) 240) (1808 + 65 * k) (-1)
/-- the first i cells of g laid from a on -/
def lay (σ g : Nat → Int32) (a i : Nat) : Nat → Int32 := fun q => if a ≤ q ∧ q < a + i then g (q - a) else σ q
theorem lay_0 (σ g : Nat → Int32) (a : Nat) : lay σ g a 0 = σ := by
  funext q
  simp only [lay]
  rw [if_neg (by omega)]
theorem lay_S (σ g : Nat → Int32) (a i : Nat) : upd (lay σ g a i) (a + i) (g i) = lay σ g a (i + 1) := by
  funext q
  simp only [upd, lay]
  by_cases e : q = a + i
  · subst e
    simp
  · rw [if_neg e]
    by_cases h1 : a ≤ q ∧ q < a + i
    · rw [if_pos h1, if_pos ⟨h1.1, by omega⟩]
    · rw [if_neg h1, if_neg (by omega)]
theorem lay_out {σ g : Nat → Int32} {a i q : Nat} (h : q < a ∨ a + i ≤ q) : lay σ g a i q = σ q := by
  simp only [lay]
  rw [if_neg (by omega)]
/-- letters, and what is allowed at place k of a text -/
def ltr (x : Int32) : Bool := decide (nI 97 ≤ x ∧ x ≤ nI 122)
def isw (f : Nat → Int32) : Nat → Bool
  | 0 => false
  | k + 1 => ltr (f k)
def okc (f : Nat → Int32) (k : Nat) : Bool := ltr (f k) || (bl f k && isw f k)
/-- the fault of a text, or -1 -/
def flt (f : Nat → Int32) (n : Nat) : Int32 := if fst (fun k => !okc f k) n < n then nI (fst (fun k => !okc f k) n) else if isw f n = true then -1 else nI n
/-- a text of words, without a fault -/
def okT (f : Nat → Int32) (n : Nat) : Prop := 0 < n ∧ (∀ k, k < n → okc f k = true) ∧ isw f n = true
def told (f g : Nat → Int32) (n m : Nat) : Bool := decide (n = m) && al (fun k => f k == g k) m
theorem b2i_T {b : Bool} (h : b = true) : nI 1 = b2i b := by rw [h]; rfl
theorem b2i_F {b : Bool} (h : b = false) : nI 0 = b2i b := by rw [h]; rfl
/-- a label that is too long -/
def cutB (σ : Nat → Int32) (p lim : Nat) : Bool := decide (lim < nw (sft σ (272 + 64 * p + 4)) (nt (σ (272 + 64 * p))))
def cutS (σ : Nat → Int32) (p lim : Nat) : Nat → Int32 := if cutB σ p lim = true then upd (upd (upd σ (272 + 64 * p) (nI (beg (sft σ (272 + 64 * p + 4)) (nt (σ (272 + 64 * p))) lim - 1))) (272 + 64 * p + 3) (σ (272 + 64 * p + 3) + nI 1)) 21 (σ 21 + nI 1) else σ
theorem up_eq (f : Nat → Int32) (k : Nat) (v : Int32) : upd f k v k = v := by simp [upd]
theorem up_ne (f : Nat → Int32) {k q : Nat} (v : Int32) (h : q ≠ k) : upd f k v q = f q := by simp [upd, h]
theorem nw_le (f : Nat → Int32) (n : Nat) : nw f n ≤ n + 1 := by
  have := cnt_le (bl f) n
  unfold nw
  split <;> omega
theorem cutS_F {σ : Nat → Int32} {p lim : Nat} (h : cutB σ p lim = false) : cutS σ p lim = σ := by simp [cutS, h]
theorem cutS_T {σ : Nat → Int32} {p lim : Nat} (h : cutB σ p lim = true) : cutS σ p lim = upd (upd (upd σ (272 + 64 * p) (nI (beg (sft σ (272 + 64 * p + 4)) (nt (σ (272 + 64 * p))) lim - 1))) (272 + 64 * p + 3) (σ (272 + 64 * p + 3) + nI 1)) 21 (σ 21 + nI 1) := by simp [cutS, h]
theorem cutS_out {σ : Nat → Int32} {p lim q : Nat} (h1 : q ≠ 272 + 64 * p) (h2 : q ≠ 272 + 64 * p + 3) (h3 : q ≠ 21) : cutS σ p lim q = σ q := by
  cases h : cutB σ p lim
  · rw [cutS_F h]
  · rw [cutS_T h, up_ne _ _ h3, up_ne _ _ h2, up_ne _ _ h1]
theorem cut_beg {f : Nat → Int32} {n lim : Nat} (h : lim < nw f n) : lim ≤ cnt (bl f) n := by
  unfold nw at h
  split at h <;> omega
theorem beg_pos {f : Nat → Int32} {n lim : Nat} (h : lim ≤ cnt (bl f) n) (h1 : 1 ≤ lim) : 1 ≤ beg f n lim := by
  have B := beg_spec h
  rcases Nat.eq_zero_or_pos (beg f n lim) with e | e
  · have := B.2.1
    rw [e] at this
    simp [cnt] at this
    omega
  · exact e
/-- labels cut, tongue by tongue -/
def caS (σ : Nat → Int32) (a lim : Nat) : Nat → Nat → Int32
  | 0 => σ
  | i + 1 => cutS (caS σ a lim i) (3 * a + i) lim
def caN (σ : Nat → Int32) (a lim : Nat) : Nat → Nat
  | 0 => 0
  | i + 1 => caN σ a lim i + (if cutB (caS σ a lim i) (3 * a + i) lim = true then 1 else 0)
theorem caS_out {σ : Nat → Int32} {a lim q : Nat} (h3 : q ≠ 21) : ∀ i, (∀ b, b < i → q ≠ 272 + 64 * (3 * a + b) ∧ q ≠ 272 + 64 * (3 * a + b) + 3) → caS σ a lim i q = σ q
  | 0, _ => rfl
  | i + 1, h => by
    have h1 := h i (by omega)
    rw [caS, cutS_out h1.1 h1.2 h3]
    exact caS_out h3 i (fun b hb => h b (by omega))
/-- the rewrite that becomes a label: of k rewrites looked at -/
def pap (k : Nat) : Nat := 1808 + 65 * k
def vfk (σ : Nat → Int32) (k : Nat) : Nat := cnt (fun q => σ (32 + q) == σ (1808 + 65 * k)) 240
def nwr (σ : Nat → Int32) (k : Nat) : Nat := nw (sft σ (1808 + 65 * k + 5)) (nt (σ (1808 + 65 * k + 4)))
def cand (σ : Nat → Int32) (p k : Nat) : Bool := decide (0 ≤ σ (1808 + 65 * k)) && σ (1808 + 65 * k + 1) == nI p
def btr (σ : Nat → Int32) (k g : Nat) : Bool := decide (vfk σ g < vfk σ k) || (decide (vfk σ k = vfk σ g) && (decide (nwr σ k < nwr σ g) || (decide (nwr σ k = nwr σ g) && decide (σ (1808 + 65 * k) < σ (1808 + 65 * g)))))
def bsS (σ : Nat → Int32) (p nd lim : Nat) (f : Option Nat) (k : Nat) : Option Nat := if cand σ p k && decide (nd ≤ vfk σ k) && decide (nwr σ k ≤ lim) && (match f with | none => true | some g => btr σ k g) then some k else f
def bst (σ : Nat → Int32) (p nd lim : Nat) : Nat → Option Nat
  | 0 => none
  | k + 1 => bsS σ p nd lim (bst σ p nd lim k) k
def oI (f : Option Nat) : Int32 := match f with | none => -1 | some k => nI k
theorem bst_lt {σ : Nat → Int32} {p nd lim : Nat} : ∀ {i g : Nat}, bst σ p nd lim i = some g → g < i ∧ cand σ p g = true
  | 0, g, h => by simp [bst] at h
  | i + 1, g, h => by
    have h0 : bst σ p nd lim (i + 1) = bsS σ p nd lim (bst σ p nd lim i) i := rfl
    rw [h0] at h
    unfold bsS at h
    by_cases h1 : (cand σ p i && decide (nd ≤ vfk σ i) && decide (nwr σ i ≤ lim) && (match bst σ p nd lim i with | none => true | some g => btr σ i g)) = true
    · rw [if_pos h1] at h
      cases h
      simp only [Bool.and_eq_true] at h1
      exact ⟨by omega, h1.1.1.1⟩
    · rw [if_neg h1] at h
      have := bst_lt h
      exact ⟨by omega, this.2⟩
theorem vfk_le (σ : Nat → Int32) (k : Nat) : vfk σ k ≤ 240 := cnt_le _ _
