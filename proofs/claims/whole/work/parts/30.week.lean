theorem gone_k {σ : Nat → Int32} {k : Nat} : gone σ k (1808 + 65 * k) = -1 := by
  unfold gone
  exact up_eq _ _ _
theorem gone_out {σ : Nat → Int32} {k q : Nat} (h : q < 32 ∨ 272 ≤ q) (h2 : q ≠ 1808 + 65 * k) : gone σ k q = σ q := by
  unfold gone
  rw [up_ne _ _ h2]
  unfold gv
  rw [if_neg (by omega)]
/-- a rewrite that is gone leaves the rest as it should be -/
theorem WS_gone {σ : Nat → Int32} (h : WS σ) {k : Nat} (hk : k < 16) : WS (gone σ k) := by
  obtain ⟨h1, h2, h3, h4, h5, h6, h7⟩ := h
  have g : ∀ q, (q < 32 ∨ 272 ≤ q) → q ≠ 1808 + 65 * k → gone σ k q = σ q := fun q a b => gone_out a b
  refine ⟨fun a ha => ?_, fun r hr => ?_, fun r hr => ?_, ?_, ?_, fun p hp => ?_, fun j hj => ?_⟩
  · rw [g a (by omega) (by omega)]; exact h1 a ha
  · rw [g _ (by omega) (by omega)]; exact h2 r hr
  · rw [g _ (by omega) (by omega)]; exact h3 r hr
  · rw [g _ (by omega) (by omega)]; exact h4
  · rw [g _ (by omega) (by omega)]; exact h5
  · rw [g _ (by omega) (by omega)]
    have := (h6 p hp).1.2
    exact ⟨(h6 p hp).1, (h6 p hp).2.imp id (okT_congr (fun i hi => (g _ (by omega) (by omega)).symm))⟩
  · by_cases e : j = k
    · subst e
      exact Or.inl gone_k
    · rw [g (1808 + 65 * j) (by omega) (by omega)]
      refine (h7 j hj).imp id (fun ⟨a1, a2, a3, a4, a5, a6⟩ => ?_)
      have := a5.2
      unfold rwk
      rw [g (1808 + 65 * j) (by omega) (by omega), g 18 (by omega) (by omega), g (1808 + 65 * j + 1) (by omega) (by omega), g (1808 + 65 * j + 2) (by omega) (by omega), g (1808 + 65 * j + 3) (by omega) (by omega), g (1808 + 65 * j + 4) (by omega) (by omega)]
      exact ⟨a1, a2, a3, a4, a5, okT_congr (fun i hi => (g _ (by omega) (by omega)).symm) a6⟩
/-- a change of the label in place p alone (and of counters) -/
theorem WS_lab {σ τ : Nat → Int32} (h : WS σ) {p : Nat} (hp : p < 24) (e1 : ∀ q, q < 19 → τ q = σ q) (e2 : ∀ q, 272 ≤ q → q < 2848 → (q < 272 + 64 * p ∨ 272 + 64 * p + 64 ≤ q) → τ q = σ q) (hl : ub (τ (272 + 64 * p)) 61 ∧ (nt (τ (272 + 64 * p)) = 0 ∨ okT (sft τ (272 + 64 * p + 4)) (nt (τ (272 + 64 * p))))) : WS τ := by
  obtain ⟨h1, h2, h3, h4, h5, h6, h7⟩ := h
  refine ⟨fun a ha => ?_, fun r hr => ?_, fun r hr => ?_, ?_, ?_, fun j hj => ?_, fun j hj => ?_⟩
  · rw [e1 a (by omega)]; exact h1 a ha
  · rw [e1 _ (by omega)]; exact h2 r hr
  · rw [e1 _ (by omega)]; exact h3 r hr
  · rw [e1 _ (by omega)]; exact h4
  · rw [e1 _ (by omega)]; exact h5
  · by_cases e : j = p
    · rw [e]
      exact hl
    · have := (h6 j hj).1.2
      rw [e2 (272 + 64 * j) (by omega) (by omega) (by omega)]
      exact ⟨(h6 j hj).1, (h6 j hj).2.imp id (okT_congr (fun i hi => (e2 _ (by omega) (by omega) (by omega)).symm))⟩
  · rw [e2 (1808 + 65 * j) (by omega) (by omega) (by omega)]
    refine (h7 j hj).imp id (fun ⟨a1, a2, a3, a4, a5, a6⟩ => ?_)
    have := a5.2
    unfold rwk
    rw [e2 (1808 + 65 * j) (by omega) (by omega) (by omega), e1 18 (by omega), e2 (1808 + 65 * j + 1) (by omega) (by omega) (by omega), e2 (1808 + 65 * j + 2) (by omega) (by omega) (by omega), e2 (1808 + 65 * j + 3) (by omega) (by omega) (by omega), e2 (1808 + 65 * j + 4) (by omega) (by omega) (by omega)]
    exact ⟨a1, a2, a3, a4, a5, okT_congr (fun i hi => (e2 _ (by omega) (by omega) (by omega)).symm) a6⟩
/-- the rewrite in place k becomes the label in place p -/
def ac0 (σ : Nat → Int32) (p k : Nat) : Nat → Int32 := lay (upd (upd (upd (upd σ (272 + 64 * p) (σ (1808 + 65 * k + 4))) (272 + 64 * p + 1) (σ (1808 + 65 * k + 2))) (272 + 64 * p + 2) (σ 17)) (272 + 64 * p + 3) (nI 0)) (sft σ (1808 + 65 * k + 5)) (272 + 64 * p + 4) (nt (σ (1808 + 65 * k + 4)))
def ac1 (σ : Nat → Int32) (p k : Nat) : Nat → Int32 := upd (ac0 σ p k) (22 + nt (σ (1808 + 65 * k + 2))) (σ (22 + nt (σ (1808 + 65 * k + 2))) + nI 1)
def accS (σ : Nat → Int32) (p k : Nat) : Nat → Int32 := gone (ac1 σ p k) k
theorem ac0_out {σ : Nat → Int32} {p k q : Nat} (hn : nt (σ (1808 + 65 * k + 4)) ≤ 60) (h : q < 272 + 64 * p ∨ 272 + 64 * p + 64 ≤ q) : ac0 σ p k q = σ q := by
  unfold ac0
  rw [lay_out (by omega), up_ne _ _ (by omega), up_ne _ _ (by omega), up_ne _ _ (by omega), up_ne _ _ (by omega)]
theorem ac0_len {σ : Nat → Int32} {p k : Nat} : ac0 σ p k (272 + 64 * p) = σ (1808 + 65 * k + 4) := by
  unfold ac0
  rw [lay_out (by omega), up_ne _ _ (by omega), up_ne _ _ (by omega), up_ne _ _ (by omega), up_eq]
theorem ac0_txt {σ : Nat → Int32} {p k j : Nat} (h : j < nt (σ (1808 + 65 * k + 4))) : ac0 σ p k (272 + 64 * p + 4 + j) = σ (1808 + 65 * k + 5 + j) := by
  unfold ac0 lay
  rw [if_pos (by omega)]
  unfold sft
  congr 1
  omega
theorem WS_acc {σ : Nat → Int32} (h : WS σ) {p k : Nat} (hp : p < 24) (hk : k < 16) (hr : rwk σ k) : WS (accS σ p k) := by
  have h5 := hr.2.2.2.2.1
  have hn := h5.2
  refine WS_gone (WS_lab h hp (fun q hq => ?_) (fun q h1 h2 h3 => ?_) ?_) hk
  · unfold ac1
    rw [up_ne _ _ (by omega), ac0_out (by omega) (by omega)]
  · have := hr.2.2.1.2
    unfold ac1
    rw [up_ne _ _ (by omega), ac0_out (by omega) h3]
  · have := hr.2.2.1.2
    have e : ∀ q, 272 ≤ q → ac1 σ p k q = ac0 σ p k q := fun q hq => by
      unfold ac1
      rw [up_ne _ _ (by omega)]
    rw [e _ (by omega), ac0_len]
    refine ⟨h5, Or.inr (okT_congr (fun j hj => ?_) hr.2.2.2.2.2)⟩
    show σ (1808 + 65 * k + 5 + j) = ac1 σ p k (272 + 64 * p + 4 + j)
    rw [e _ (by omega), ac0_txt hj]
