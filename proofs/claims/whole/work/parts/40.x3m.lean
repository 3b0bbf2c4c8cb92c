theorem RR.fr {w w' : Wd} {a n : Nat} {g : Nat → Int32} {π κ : Nat → Nat} (h : RR w a g n π κ) (e : ∀ q, a ≤ q → q < a + 66 → w' q = w q) : RR w' a g n π κ := by
  obtain ⟨⟨F, r1, r2, r3⟩, hK, hP, hS, hR⟩ := h
  refine ⟨⟨F, (e _ (by omega) (by omega)).trans r1, (e _ (by omega) (by omega)).trans r2, r3⟩, hK, hP, fun j hj => ?_, fun i hi => ?_⟩
  · obtain ⟨x1, x2, x3, x4, x5, f, m, ho⟩ := hS j hj
    exact ⟨x1, x2, x3, x4, x5, f, m, ho.fr (fun q h1 h2 => e q (by omega) (by omega))⟩
  · obtain ⟨V, hV⟩ := hR i hi
    have := hP.1 i (by have := hK.1; omega)
    exact ⟨V, hV.fr (fun q h1 h2 => e q (by omega) (by omega))⟩
theorem RR.congr {w : Wd} {a n : Nat} {g s : Nat → Int32} {π κ : Nat → Nat} (h : RR w a g n π κ) (hW : WS g) (e : ∀ q, q < 2848 → (q = 18 ∨ (32 ≤ q ∧ q < 272) ∨ 1808 ≤ q) → s q = g q) : RR w a s n π κ := by
  obtain ⟨⟨F, r1, r2, r3⟩, hK, hP, hS, hR⟩ := h
  refine ⟨⟨F, by rw [e 18 (by omega) (Or.inl rfl)]; exact r1, r2, r3⟩, hK.congr (fun k hk => e _ (by omega) (by omega)), hP, hS, fun i hi => ?_⟩
  obtain ⟨V, hV⟩ := hR i hi
  have hk := hK.2.1 i hi
  have hp := (hW.rw hk.1 hk.2).2.1.2
  exact ⟨V, hV.congr (fun q h1 h2 => e q (by omega) (by omega)) (fun v hv => by rw [e (32 + 24 * v + nt (g (1808 + 65 * κ i + 1))) (by omega) (by omega)])⟩
/-- one row's object is written -/
theorem RR_row {w w' : Wd} {a n j V : Nat} {g s : Nat → Int32} {π κ : Nat → Nat} (h : RR w a g n π κ) (hj : j < n) (e18 : s 18 = g 18) (e0 : ∀ k, k < 16 → s (1808 + 65 * k) = g (1808 + 65 * k)) (ew : ∀ q, (q < a + 2 + 4 * π j ∨ a + 2 + 4 * π j + 4 ≤ q) → w' q = w q) (hr : RwR w' (a + 2 + 4 * π j) s (κ j) V) (ho : ∀ i, i < n → i ≠ j → ∀ b U, RwR w b g (κ i) U → RwR w b s (κ i) U) : RR w' a s n π κ := by
  obtain ⟨⟨F, r1, r2, r3⟩, hK, hP, hS, hR⟩ := h
  have hn := hK.1
  have hpj := hP.1 j (by omega)
  refine ⟨⟨F, by rw [e18, ew _ (by omega)]; exact r1, by rw [ew _ (by omega)]; exact r2, r3⟩, hK.congr e0, hP, fun i hi => ?_, fun i hi => ?_⟩
  · by_cases z : i = π j
    · rw [z]
      exact ⟨_, _, _, _, _, _, _, hr.1⟩
    · obtain ⟨x1, x2, x3, x4, x5, f, m, ho⟩ := hS i hi
      exact ⟨x1, x2, x3, x4, x5, f, m, ho.fr (fun q h1 h2 => ew q (by omega))⟩
  · by_cases z : i = j
    · rw [z]
      exact ⟨V, hr⟩
    · obtain ⟨U, hU⟩ := hR i hi
      have hne : π i ≠ π j := fun y => z (hP.2 i j (by omega) (by omega) y)
      exact ⟨U, (ho i hi z _ _ hU).fr (fun q h1 h2 => ew q (by omega))⟩
/-- rows that close up -/
def shF (F : Nat → Option Nat) (j t : Nat) : Nat → Option Nat := fun q => if j ≤ q ∧ q < j + t then F (q + 1) else F q
theorem shF_0 (F : Nat → Option Nat) (j : Nat) : shF F j 0 = F := by
  funext q
  unfold shF
  rw [if_neg (by omega)]
theorem shF_out {F : Nat → Option Nat} {j t q : Nat} (h : q < j ∨ j + t ≤ q) : shF F j t q = F q := by
  unfold shF
  rw [if_neg (by omega)]
theorem shF_S {F : Nat → Option Nat} {j t : Nat} {v : Option Nat} (hv : F (j + 1 + t) = v) : va_up (shF F j t) (j + 1 + t - 1) v = shF F j (t + 1) := by
  funext q
  unfold va_up shF
  by_cases e : q = j + 1 + t - 1
  · rw [if_pos e, if_pos (by omega), ← hv, e, show j + 1 + t - 1 + 1 = j + 1 + t by omega]
  · rw [if_neg e]
    by_cases z : j ≤ q ∧ q < j + t
    · rw [if_pos z, if_pos (by omega)]
    · rw [if_neg z, if_neg (by omega)]
def cutP (π : Nat → Nat) (n j : Nat) : Nat → Nat := fun i => if i < j then π i else if i < n - 1 then π (i + 1) else if i = n - 1 then π j else π i
theorem cutP_RP {π : Nat → Nat} {n j : Nat} (h : RP π) (hj : j < n) (hn : n ≤ 16) : RP (cutP π n j) := by
  obtain ⟨σ, hs⟩ : ∃ σ : Nat → Nat, σ = fun i => if i < j then i else if i < n - 1 then i + 1 else if i = n - 1 then j else i := ⟨_, rfl⟩
  have hc : ∀ i, cutP π n j i = π (σ i) := fun i => by
    rw [hs]
    unfold cutP
    by_cases a : i < j
    · rw [if_pos a]
      show π i = π (if i < j then i else if i < n - 1 then i + 1 else if i = n - 1 then j else i)
      rw [if_pos a]
    · rw [if_neg a]
      show _ = π (if i < j then i else if i < n - 1 then i + 1 else if i = n - 1 then j else i)
      rw [if_neg a]
      by_cases b : i < n - 1
      · rw [if_pos b, if_pos b]
      · rw [if_neg b, if_neg b]
        by_cases c : i = n - 1
        · rw [if_pos c, if_pos c]
        · rw [if_neg c, if_neg c]
  have hb : ∀ i, i < 16 → σ i < 16 := fun i hi => by
    rw [hs]
    show (if i < j then i else if i < n - 1 then i + 1 else if i = n - 1 then j else i) < 16
    split
    · exact hi
    · split
      · omega
      · split <;> omega
  refine ⟨fun i hi => by rw [hc]; exact h.1 _ (hb i hi), fun i k hi hk e => ?_⟩
  rw [hc, hc] at e
  have e2 := h.2 _ _ (hb i hi) (hb k hk) e
  rw [hs] at e2
  have e2 : (if i < j then i else if i < n - 1 then i + 1 else if i = n - 1 then j else i) = (if k < j then k else if k < n - 1 then k + 1 else if k = n - 1 then j else k) := e2
  split at e2
  · split at e2
    · exact e2
    · split at e2
      · omega
      · split at e2 <;> omega
  · split at e2
    · split at e2
      · omega
      · split at e2
        · omega
        · split at e2 <;> omega
    · split at e2
      · split at e2
        · omega
        · split at e2
          · omega
          · split at e2 <;> omega
      · split at e2
        · omega
        · split at e2
          · omega
          · split at e2 <;> omega
theorem RwR.gone {w : Wd} {b k j V : Nat} {g : Nat → Int32} (h : RwR w b g k V) (hW : nt (g (1808 + 65 * k + 1)) < 24) (h0 : 0 ≤ g (1808 + 65 * k)) (hne : k ≠ j) (hd : ¬ g (1808 + 65 * k) = g (1808 + 65 * j)) : RwR w b (gone g j) k V := by
  refine h.congr (fun q h1 h2 => gone_out (by omega) (by omega)) (fun v hv => ?_)
  rw [gone_v ⟨by omega, by omega⟩]
  by_cases e : g (32 + 24 * v + nt (g (1808 + 65 * k + 1))) = g (1808 + 65 * j)
  · rw [if_pos e, e]
    have a1 : ((-1 : Int32) == g (1808 + 65 * k)) = false := by
      have := i_m1 h0
      simpa using fun z : (-1 : Int32) = g (1808 + 65 * k) => this z.symm
    have a2 : (g (1808 + 65 * j) == g (1808 + 65 * k)) = false := by
      simpa using fun z : g (1808 + 65 * j) = g (1808 + 65 * k) => hd z.symm
    rw [a1, a2]
  · rw [if_neg e]
theorem RR_gone {w w' : Wd} {a n j : Nat} {g : Nat → Int32} {π κ : Nat → Nat} (h : RR w a g n π κ) (hpl : ∀ i, i < n → nt (g (1808 + 65 * κ i + 1)) < 24) (hj : j < n) {F : Nat → Option Nat} (e1 : w' a = some (ob 3 [.ref (a + 1), .int (nI (n - 1)), .int (g 18)])) (e2 : w' (a + 1) = some (ra 3 16 F)) (e3 : ∀ i, i < 16 → F i = some (a + 2 + 4 * cutP π n j i)) (e4 : ∀ q, q ≠ a → q ≠ a + 1 → w' q = w q) : RR w' a (gone g (κ j)) (n - 1) (cutP π n j) (cutK κ j) := by
  obtain ⟨-, hK, hP, hS, hR⟩ := h
  have hn := hK.1
  refine ⟨⟨F, by rw [gone_out (by omega) (by omega)]; exact e1, e2, e3⟩, KR_gone hK hj, cutP_RP hP hj hn, fun i hi => ?_, fun i hi => ?_⟩
  · obtain ⟨x1, x2, x3, x4, x5, f, m, ho⟩ := hS i hi
    exact ⟨x1, x2, x3, x4, x5, f, m, ho.fr (fun q h1 h2 => e4 q (by omega) (by omega))⟩
  · have key : ∀ i', i' < n → i' ≠ j → ∃ V, RwR w' (a + 2 + 4 * π i') (gone g (κ j)) (κ i') V := fun i' hi' hne => by
      obtain ⟨V, hV⟩ := hR i' hi'
      have hd : ¬ g (1808 + 65 * κ i') = g (1808 + 65 * κ j) := fun z => hne (hK.inj hi' hj z)
      exact ⟨V, (RwR.gone hV (hpl i' hi') (hK.2.1 i' hi').2 (fun z => hd (by rw [z])) hd).fr (fun q h1 h2 => e4 q (by omega) (by omega))⟩
    unfold cutP cutK
    by_cases z : i < j
    · rw [if_pos z, if_pos z]
      exact key i (by omega) (by omega)
    · rw [if_neg z, if_neg z, if_pos hi]
      exact key (i + 1) (by omega) (by omega)
/-- the best, as the class looks for it -/
def fw (g : Nat → Int32) (k f : Nat) : Bool := decide (vfk g f < vfk g k) || (decide (vfk g k = vfk g f) && decide (nwr g k < nwr g f))
def clB (g : Nat → Int32) (κ : Nat → Nat) (p nd lim : Nat) : Nat → Option Nat
  | 0 => none
  | i + 1 => if (okB g p nd lim (κ i) && (match clB g κ p nd lim i with | none => true | some j => fw g (κ i) (κ j))) = true then some i else clB g κ p nd lim i
theorem clB_F {g : Nat → Int32} {κ : Nat → Nat} {p nd lim i : Nat} (h : okB g p nd lim (κ i) = false) : clB g κ p nd lim (i + 1) = clB g κ p nd lim i := by
  rw [clB, h, Bool.false_and, if_neg (by decide)]
theorem clB_N {g : Nat → Int32} {κ : Nat → Nat} {p nd lim i : Nat} (h : okB g p nd lim (κ i) = true) (h2 : clB g κ p nd lim i = none) : clB g κ p nd lim (i + 1) = some i := by
  rw [clB, h, h2]
  rfl
theorem clB_T {g : Nat → Int32} {κ : Nat → Nat} {p nd lim i j : Nat} (h : okB g p nd lim (κ i) = true) (h2 : clB g κ p nd lim i = some j) (h3 : fw g (κ i) (κ j) = true) : clB g κ p nd lim (i + 1) = some i := by
  rw [clB, h, h2]
  show (if (true && fw g (κ i) (κ j)) = true then some i else some j) = some i
  rw [h3]
  rfl
theorem clB_K {g : Nat → Int32} {κ : Nat → Nat} {p nd lim i j : Nat} (h2 : clB g κ p nd lim i = some j) (h3 : fw g (κ i) (κ j) = false) : clB g κ p nd lim (i + 1) = clB g κ p nd lim i := by
  rw [clB, h2]
  show (if (okB g p nd lim (κ i) && fw g (κ i) (κ j)) = true then some i else some j) = some j
  rw [h3, Bool.and_false]
  rfl
theorem fw_iff {g : Nat → Int32} {k f : Nat} : fw g k f = true ↔ vfk g f < vfk g k ∨ (vfk g k = vfk g f ∧ nwr g k < nwr g f) := by
  unfold fw
  simp
theorem clB_P {g : Nat → Int32} {n : Nat} {κ : Nat → Nat} (h : KR g n κ) {p nd lim : Nat} : ∀ i, i ≤ n → bsP (fun i => okB g p nd lim (κ i)) (fun i j => btr g (κ i) (κ j)) i (clB g κ p nd lim i)
  | 0, _ => fun k hk => absurd hk (Nat.not_lt_zero _)
  | i + 1, hi => by
    have ih := clB_P h (p := p) (nd := nd) (lim := lim) i (by omega)
    cases hc : clB g κ p nd lim i with
    | none =>
      rw [hc] at ih
      have ih : ∀ k, k < i → okB g p nd lim (κ k) = false := ih
      cases ho : okB g p nd lim (κ i)
      · rw [clB_F ho, hc]
        intro k hk
        by_cases e : k = i
        · rw [e]; exact ho
        · exact ih k (by omega)
      · rw [clB_N ho hc]
        refine ⟨by omega, ho, fun k hk hok hne => ?_⟩
        have hok : okB g p nd lim (κ k) = true := hok
        rw [ih k (by omega)] at hok
        cases hok
    | some j =>
      rw [hc] at ih
      obtain ⟨h1, h2, h3⟩ : j < i ∧ okB g p nd lim (κ j) = true ∧ ∀ k, k < i → okB g p nd lim (κ k) = true → k ≠ j → btr g (κ j) (κ k) = true := ih
      have keep : (okB g p nd lim (κ i) = false ∨ fw g (κ i) (κ j) = false) → bsP (fun i => okB g p nd lim (κ i)) (fun i j => btr g (κ i) (κ j)) (i + 1) (some j) := fun hq => by
        refine ⟨by omega, h2, fun k hk hok hne => ?_⟩
        have hok : okB g p nd lim (κ k) = true := hok
        by_cases e : k = i
        · rw [e] at hok
          show btr g (κ j) (κ k) = true
          rw [e]
          have hf : ¬ fw g (κ i) (κ j) = true := by
            rcases hq with z | z
            · rw [z] at hok; cases hok
            · rw [z]; decide
          rw [fw_iff] at hf
          have hlt := h.2.2.1 j i h1 (by omega)
          refine btr_iff.mpr ?_
          rcases Nat.lt_trichotomy (vfk g (κ i)) (vfk g (κ j)) with z | z | z
          · exact Or.inl z
          · refine Or.inr ⟨z.symm, ?_⟩
            rcases Nat.lt_trichotomy (nwr g (κ j)) (nwr g (κ i)) with y | y | y
            · exact Or.inl y
            · exact Or.inr ⟨y, hlt⟩
            · exact absurd (Or.inr ⟨z, y⟩) hf
          · exact absurd (Or.inl z) hf
        · exact h3 k (by omega) hok hne
      cases ho : okB g p nd lim (κ i)
      · rw [clB_F ho, hc]
        exact keep (Or.inl ho)
      · cases hf : fw g (κ i) (κ j)
        · rw [clB_K hc hf, hc]
          exact keep (Or.inr hf)
        · rw [clB_T ho hc hf]
          refine ⟨by omega, ho, fun k hk hok hne => ?_⟩
          have hb : btr g (κ i) (κ j) = true := by
            refine btr_iff.mpr ?_
            rcases fw_iff.mp hf with z | z
            · exact Or.inl z
            · exact Or.inr ⟨z.1, Or.inl z.2⟩
          by_cases e : k = j
          · show btr g (κ i) (κ k) = true
            rw [e]; exact hb
          · exact btr_tr hb (h3 k (by omega) hok e)
theorem clB_lt {g : Nat → Int32} {n : Nat} {κ : Nat → Nat} (h : KR g n κ) {p nd lim i j : Nat} (hi : i ≤ n) (hc : clB g κ p nd lim i = some j) : j < i ∧ okB g p nd lim (κ j) = true := by
  have := clB_P h (p := p) (nd := nd) (lim := lim) i hi
  rw [hc] at this
  exact ⟨this.1, this.2.1⟩
theorem clB_eq {g : Nat → Int32} {n : Nat} {κ : Nat → Nat} (h : KR g n κ) {p nd lim : Nat} : bst g p nd lim 16 = (clB g κ p nd lim n).map κ := best_eq h (clB_P h n (Nat.le_refl _))
/-- one more row -/
def upK (κ : Nat → Nat) (n k : Nat) : Nat → Nat := fun i => if i = n then k else κ i
theorem KR_new {g s : Nat → Int32} {n k : Nat} {κ : Nat → Nat} (h : KR g n κ) (hn : n < 16) (hk : k < 16) (hf : ¬ 0 ≤ g (1808 + 65 * k)) (e : ∀ j, j < 16 → j ≠ k → s (1808 + 65 * j) = g (1808 + 65 * j)) (h0 : 0 ≤ s (1808 + 65 * k)) (hgt : ∀ i, i < n → g (1808 + 65 * κ i) < s (1808 + 65 * k)) : KR s (n + 1) (upK κ n k) := by
  have hne : ∀ i, i < n → κ i ≠ k := fun i hi z => hf (by rw [← z]; exact (h.2.1 i hi).2)
  have hl : ∀ i, i < n → upK κ n k i = κ i := fun i hi => if_neg (by omega)
  have hnn : upK κ n k n = k := if_pos rfl
  refine ⟨by omega, fun i hi => ?_, fun i j hi hj => ?_, fun j hj h1 => ?_⟩
  · by_cases z : i = n
    · rw [z, hnn]; exact ⟨hk, h0⟩
    · have := h.2.1 i (by omega)
      rw [hl i (by omega), e _ this.1 (hne i (by omega))]
      exact this
  · have hi' := h.2.1 i (by omega)
    rw [hl i (by omega), e _ hi'.1 (hne i (by omega))]
    by_cases z : j = n
    · rw [z, hnn]; exact hgt i (by omega)
    · rw [hl j (by omega), e _ (h.2.1 j (by omega)).1 (hne j (by omega))]
      exact h.2.2.1 i j hi (by omega)
  · by_cases z : j = k
    · exact ⟨n, by omega, by rw [hnn, z]⟩
    · rw [e j hj z] at h1
      obtain ⟨i, hi, y⟩ := h.2.2.2 j hj h1
      exact ⟨i, by omega, by rw [hl i hi]; exact y⟩
