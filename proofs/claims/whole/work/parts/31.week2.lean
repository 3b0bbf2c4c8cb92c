/-- the end of the week, label by label -/
def wkS (σ : Nat → Int32) : Nat → Nat → Int32
  | 0 => σ
  | p + 1 => match bst (wkS σ p) p (nt (σ 16)) (limW σ (p / 3)) 16 with
    | none => wkS σ p
    | some k => accS (wkS σ p) p k
def wkN (σ : Nat → Int32) : Nat → Nat
  | 0 => 0
  | p + 1 => match bst (wkS σ p) p (nt (σ 16)) (limW σ (p / 3)) 16 with
    | none => wkN σ p
    | some _ => wkN σ p + 1
theorem accS_lo {σ : Nat → Int32} {p k q : Nat} (hn : nt (σ (1808 + 65 * k + 4)) ≤ 60) (h : q < 22) : accS σ p k q = σ q := by
  unfold accS
  rw [gone_out (by omega) (by omega)]
  unfold ac1
  rw [up_ne _ _ (by omega), ac0_out hn (by omega)]
theorem cand_0 {σ : Nat → Int32} {p k : Nat} (h : cand σ p k = true) : 0 ≤ σ (1808 + 65 * k) := by
  simp only [cand, Bool.and_eq_true, decide_eq_true_eq] at h
  exact h.1
theorem wk_ok {σ : Nat → Int32} (h : WS σ) : ∀ p, p ≤ 24 → WS (wkS σ p) ∧ ∀ q, q < 22 → wkS σ p q = σ q
  | 0, _ => ⟨h, fun _ _ => rfl⟩
  | p + 1, hp => by
    have i := wk_ok h p (by omega)
    simp only [wkS]
    cases hb : bst (wkS σ p) p (nt (σ 16)) (limW σ (p / 3)) 16 with
    | none => exact i
    | some k =>
      have hk := bst_lt hb
      have hr := i.1.rw hk.1 (cand_0 hk.2)
      have hn := hr.2.2.2.2.1.2
      exact ⟨WS_acc i.1 (by omega) hk.1 hr, fun q hq => (accS_lo (by omega) hq).trans (i.2 q hq)⟩
/-- a rewrite grows older, or falls away -/
def agk (s : Nat → Int32) (k : Nat) : Nat → Int32 := if 0 ≤ s (1808 + 65 * k) then (if s (1808 + 65 * k + 3) + nI 1 = nI 3 then upd (gone (upd s (1808 + 65 * k + 3) (s (1808 + 65 * k + 3) + nI 1)) k) 20 (s 20 + nI 1) else upd s (1808 + 65 * k + 3) (s (1808 + 65 * k + 3) + nI 1)) else s
def agS (σ : Nat → Int32) : Nat → Nat → Int32
  | 0 => σ
  | k + 1 => agk (agS σ k) k
def endWeekR (σ : Nat → Int32) (ns : Nat) : An := (nI (wkN (rcS σ ns) 24), rcn ns, upd (upd (agS (wkS (rcS σ ns) 24) 16) 19 (agS (wkS (rcS σ ns) 24) 16 19 + nI (wkN (rcS σ ns) 24))) 17 (agS (wkS (rcS σ ns) 24) 16 17 + nI 1))
