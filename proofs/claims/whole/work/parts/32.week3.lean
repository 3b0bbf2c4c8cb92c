/-- a change of the rewrite in place k alone (of votes and counters, too) -/
theorem WS_rwt {σ τ : Nat → Int32} (h : WS σ) {k : Nat} (hk : k < 16) (e1 : ∀ q, q < 18 → τ q = σ q) (e18 : ub (τ 18) 201 ∧ nt (σ 18) ≤ nt (τ 18)) (e2 : ∀ q, 272 ≤ q → q < 2848 → (q < 1808 + 65 * k ∨ 1808 + 65 * k + 65 ≤ q) → τ q = σ q) (hl : τ (1808 + 65 * k) = -1 ∨ rwk τ k) : WS τ := by
  obtain ⟨h1, h2, h3, h4, h5, h6, h7⟩ := h
  refine ⟨fun a ha => ?_, fun r hr => ?_, fun r hr => ?_, ?_, e18.1, fun j hj => ?_, fun j hj => ?_⟩
  · rw [e1 a (by omega)]; exact h1 a ha
  · rw [e1 _ (by omega)]; exact h2 r hr
  · rw [e1 _ (by omega)]; exact h3 r hr
  · rw [e1 _ (by omega)]; exact h4
  · have := (h6 j hj).1.2
    rw [e2 (272 + 64 * j) (by omega) (by omega) (by omega)]
    exact ⟨(h6 j hj).1, (h6 j hj).2.imp id (okT_congr (fun i hi => (e2 _ (by omega) (by omega) (by omega)).symm))⟩
  · by_cases e : j = k
    · rw [e]
      exact hl
    · rw [e2 (1808 + 65 * j) (by omega) (by omega) (by omega)]
      refine (h7 j hj).imp id (fun ⟨a1, a2, a3, a4, a5, a6⟩ => ?_)
      have := a5.2
      have := a1.2
      unfold rwk
      rw [e2 (1808 + 65 * j) (by omega) (by omega) (by omega), e2 (1808 + 65 * j + 1) (by omega) (by omega) (by omega), e2 (1808 + 65 * j + 2) (by omega) (by omega) (by omega), e2 (1808 + 65 * j + 3) (by omega) (by omega) (by omega), e2 (1808 + 65 * j + 4) (by omega) (by omega) (by omega)]
      exact ⟨⟨a1.1, by omega⟩, a2, a3, a4, a5, okT_congr (fun i hi => (e2 _ (by omega) (by omega) (by omega)).symm) a6⟩
theorem WS_age {s : Nat → Int32} (h : WS s) {k : Nat} (hk : k < 16) : WS (agk s k) := by
  unfold agk
  by_cases h0 : 0 ≤ s (1808 + 65 * k)
  · rw [if_pos h0]
    have hr := h.rw hk h0
    have h18 := h.2.2.2.2.1
    by_cases h3 : s (1808 + 65 * k + 3) + nI 1 = nI 3
    · rw [if_pos h3]
      have e : ∀ q, (q < 32 ∨ 272 ≤ q) → q ≠ 20 → q ≠ 1808 + 65 * k → q ≠ 1808 + 65 * k + 3 → upd (gone (upd s (1808 + 65 * k + 3) (s (1808 + 65 * k + 3) + nI 1)) k) 20 (s 20 + nI 1) q = s q := fun q a b c d => by
        rw [up_ne _ _ b, gone_out a c, up_ne _ _ d]
      refine WS_rwt h hk (fun q hq => e q (by omega) (by omega) (by omega) (by omega)) ?_ (fun q a b c => e q (by omega) (by omega) (by omega) (by omega)) (Or.inl ?_)
      · rw [e 18 (by omega) (by omega) (by omega) (by omega)]
        exact ⟨h18, Nat.le_refl _⟩
      · rw [up_ne _ _ (by omega)]
        exact gone_k
    · rw [if_neg h3]
      have e : ∀ q, q ≠ 1808 + 65 * k + 3 → upd s (1808 + 65 * k + 3) (s (1808 + 65 * k + 3) + nI 1) q = s q := fun q d => up_ne _ _ d
      refine WS_rwt h hk (fun q hq => e q (by omega)) ?_ (fun q a b c => e q (by omega)) (Or.inr ?_)
      · rw [e 18 (by omega)]
        exact ⟨h18, Nat.le_refl _⟩
      · obtain ⟨a1, a2, a3, a4, a5, a6⟩ := hr
        have := a5.2
        unfold rwk
        rw [e (1808 + 65 * k) (by omega), e 18 (by omega), e (1808 + 65 * k + 1) (by omega), e (1808 + 65 * k + 2) (by omega), e (1808 + 65 * k + 4) (by omega), up_eq]
        refine ⟨a1, a2, a3, ?_, a5, okT_congr (fun i hi => (e _ (by omega)).symm) a6⟩
        have h4 := a4.2
        rw [a4.1, nI_addN] at h3 ⊢
        have h6 : nt (s (1808 + 65 * k + 3)) + 1 ≠ 3 := fun z => h3 (by rw [z])
        exact ub_nI (by omega) (by omega)
  · rw [if_neg h0]
    exact h
