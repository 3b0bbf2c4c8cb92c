theorem gone_k {σ : Nat → Int32} {k : Nat} : gone σ k (1808 + 65 * k) = -1 := by
  unfold gone
  exact up_eq _ _ _
theorem gone_out {σ : Nat → Int32} {k q : Nat} (h : q < 32 ∨ 272 ≤ q) (h2 : q ≠ 1808 + 65 * k) : gone σ k q = σ q := by
  unfold gone
  rw [up_ne _ _ h2]
  unfold gv
  rw [if_neg (by omega)]
/-- a rewrite that is gone leaves the rest as it should be -/
theorem WS_gone {σ : Nat → Int32} (h : WS σ) {k : Nat} (hk : k < 16) : WS (gone σ k) := by
  obtain ⟨h1, h2, h3, h4, h5, h6, h7⟩ := h
  have g : ∀ q, (q < 32 ∨ 272 ≤ q) → q ≠ 1808 + 65 * k → gone σ k q = σ q := fun q a b => gone_out a b
  refine ⟨fun a ha => ?_, fun r hr => ?_, fun r hr => ?_, ?_, ?_, fun p hp => ?_, fun j hj => ?_⟩
  · rw [g a (by omega) (by omega)]; exact h1 a ha
  · rw [g _ (by omega) (by omega)]; exact h2 r hr
  · rw [g _ (by omega) (by omega)]; exact h3 r hr
  · rw [g _ (by omega) (by omega)]; exact h4
  · rw [g _ (by omega) (by omega)]; exact h5
  · rw [g _ (by omega) (by omega)]
    have := (h6 p hp).1.2
    exact ⟨(h6 p hp).1, (h6 p hp).2.imp id (okT_congr (fun i hi => (g _ (by omega) (by omega)).symm))⟩
  · by_cases e : j = k
    · subst e
      exact Or.inl gone_k
    · rw [g (1808 + 65 * j) (by omega) (by omega)]
      refine (h7 j hj).imp id (fun ⟨a1, a2, a3, a4, a5, a6⟩ => ?_)
      have := a5.2
      unfold rwk
      rw [g (1808 + 65 * j) (by omega) (by omega), g 18 (by omega) (by omega), g (1808 + 65 * j + 1) (by omega) (by omega), g (1808 + 65 * j + 2) (by omega) (by omega), g (1808 + 65 * j + 3) (by omega) (by omega), g (1808 + 65 * j + 4) (by omega) (by omega)]
      exact ⟨a1, a2, a3, a4, a5, okT_congr (fun i hi => (g _ (by omega) (by omega)).symm) a6⟩
