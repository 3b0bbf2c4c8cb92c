/-! ===== the class's object, and the numbers of the reference ===== -/
def CX (w : Wd) (B : Nat) (σ : Nat → Int32) (ns nx tn : Nat) (k : Bool) (hh : Nat → Nat → Int32) (gk tx : Nat → Int32) : Prop :=
  w B = some (ob 7 [.ref (B + 1), .ref (B + 3), .ref (B + 6), .ref (B + 174), .ref (B + 848), .int (b2i k), .ref (B + 1016)]) ∧ TO w (B + 1) tx tn ∧ (∃ f n, WO w (B + 3) f n) ∧ SR w (B + 6) σ ∧ HR w (B + 174) ns nx hh ∧ SR w (B + 848) gk ∧ ∃ R, w (B + 1016) = some (ia 1 31 R)
def GH (σ : Nat → Int32) (ns nx : Nat) (k : Bool) (hh : Nat → Nat → Int32) (gk : Nat → Int32) : Prop := (∀ j, 1 ≤ j → j ≤ ns → ∀ q, q < 2848 → hh ((nx + 3 + j - ns) % 4) q = σ (2848 * j + q)) ∧ (k = true → ∀ q, q < 2848 → gk q = σ (2848 * 5 + q))
def CR (w : Wd) (B : Nat) (σ : Nat → Int32) (ns : Nat) (k : Bool) (tx : Nat → Int32) (tn : Nat) : Prop := ∃ nx hh gk, CX w B σ ns nx tn k hh gk tx ∧ GH σ ns nx k hh gk
theorem CX.fr {w w' : Wd} {B : Nat} {σ : Nat → Int32} {ns nx tn : Nat} {k : Bool} {hh : Nat → Nat → Int32} {gk tx : Nat → Int32} (h : CX w B σ ns nx tn k hh gk tx) (e : ∀ q, B ≤ q → q < B + 1017 → w' q = w q) : CX w' B σ ns nx tn k hh gk tx := by
  obtain ⟨h1, ⟨a1, a2, a3⟩, ⟨f, n, h3⟩, h4, h5, h6, R, h7⟩ := h
  exact ⟨(e _ (by omega) (by omega)).trans h1, ⟨(e _ (by omega) (by omega)).trans a1, (e _ (by omega) (by omega)).trans a2, a3⟩, ⟨f, n, h3.fr (fun q a b => e q (by omega) (by omega))⟩, h4.fr (fun q a b => e q (by omega) (by omega)), h5.fr (fun q a b => e q (by omega) (by omega)), h6.fr (fun q a b => e q (by omega) (by omega)), R, (e _ (by omega) (by omega)).trans h7⟩
theorem CR.fr {w w' : Wd} {B : Nat} {σ : Nat → Int32} {ns tn : Nat} {k : Bool} {tx : Nat → Int32} (h : CR w B σ ns k tx tn) (e : ∀ q, B ≤ q → q < B + 1017 → w' q = w q) : CR w' B σ ns k tx tn := by
  obtain ⟨nx, hh, gk, h1, h2⟩ := h
  exact ⟨nx, hh, gk, h1.fr e, h2⟩
/-- the state is changed -/
theorem CR_st {w w' : Wd} {B : Nat} {σ s : Nat → Int32} {ns tn : Nat} {k : Bool} {tx : Nat → Int32} (h : CR w B σ ns k tx tn) (hS : SR w' (B + 6) s) (hf : fr (B + 6) 168 w w') (e : ∀ q, 2848 ≤ q → s q = σ q) : CR w' B s ns k tx tn := by
  obtain ⟨nx, hh, gk, ⟨h1, ⟨a1, a2, a3⟩, ⟨f, n, h3⟩, h4, h5, h6, R, h7⟩, g1, g2⟩ := h
  refine ⟨nx, hh, gk, ⟨(hf _ (by omega)).trans h1, ⟨(hf _ (by omega)).trans a1, (hf _ (by omega)).trans a2, a3⟩, ⟨f, n, h3.fr (fun q a b => hf q (by omega))⟩, hS, h5.fr (fun q a b => hf q (by omega)), h6.fr (fun q a b => hf q (by omega)), R, (hf _ (by omega)).trans h7⟩, fun j hj hj2 q hq => ?_, fun hk q hq => ?_⟩
  · rw [e _ (by omega)]
    exact g1 j hj hj2 q hq
  · rw [e _ (by omega)]
    exact g2 hk q hq
theorem cp_in {σ : Nat → Int32} {f t q : Nat} (hq : q < 2848) : cpS σ f t 2848 (2848 * t + q) = σ (2848 * f + q) := by
  unfold cpS
  rw [if_pos (by omega), show 2848 * t + q - 2848 * t = q by omega]
theorem cp_out {σ : Nat → Int32} {f t q : Nat} (h : q < 2848 * t ∨ 2848 * t + 2848 ≤ q) : cpS σ f t 2848 q = σ q := by
  unfold cpS
  rw [if_neg (by omega)]
theorem rc3_at (σ : Nat → Int32) : ∀ i, i ≤ 3 → ∀ j q, q < 2848 → rc3 σ i (2848 * j + q) = if 1 ≤ j ∧ j ≤ i then σ (2848 * (j + 1) + q) else σ (2848 * j + q)
  | 0, _, j, q, hq => by
    rw [if_neg (by omega)]
    rfl
  | i + 1, hi, j, q, hq => by
    have ih := rc3_at σ i (by omega)
    have e : rc3 σ (i + 1) = cpS (rc3 σ i) (i + 2) (i + 1) 2848 := rfl
    rw [e]
    by_cases z : j = i + 1
    · subst z
      rw [cp_in hq, ih (i + 2) q hq, if_neg (by omega), if_pos (by omega)]
    · rw [cp_out (by omega), ih j q hq]
      by_cases y : 1 ≤ j ∧ j ≤ i
      · rw [if_pos y, if_pos (by omega)]
      · rw [if_neg y, if_neg (by omega)]
theorem rc_at {σ : Nat → Int32} {ns j q : Nat} (hns : ns ≤ 4) (hq : q < 2848) : rcS σ ns (2848 * j + q) = if j = rcn ns then σ q else if ns = 4 ∧ 1 ≤ j ∧ j ≤ 3 then σ (2848 * (j + 1) + q) else σ (2848 * j + q) := by
  unfold rcS
  by_cases z : j = rcn ns
  · subst z
    rw [cp_in hq, if_pos rfl]
    by_cases y : ns = 4
    · rw [if_pos y, rc3_at σ 3 (by omega) 0 q hq, if_neg (by omega), show 2848 * 0 + q = q by omega]
    · rw [if_neg y, show 2848 * 0 + q = q by omega]
  · rw [cp_out (by omega), if_neg z]
    by_cases y : ns = 4
    · rw [if_pos y, rc3_at σ 3 (by omega) j q hq]
      by_cases x : 1 ≤ j ∧ j ≤ 3
      · rw [if_pos x, if_pos ⟨y, x⟩]
      · rw [if_neg x, if_neg (fun v => x v.2)]
    · rw [if_neg y, if_neg (fun v => y v.1)]
/-- the state is recorded -/
theorem CR_push {w w' : Wd} {B : Nat} {σ : Nat → Int32} {ns nx tn : Nat} {k : Bool} {hh : Nat → Nat → Int32} {gk tx : Nat → Int32} (h : CX w B σ ns nx tn k hh gk tx) (hG : GH σ ns nx k hh gk) (hH : HR w' (B + 174) (rcn ns) ((nx + 1) % 4) (fun i => if i = nx then σ else hh i)) (hf : fr (B + 174) 674 w w') : CR w' B (rcS σ ns) (rcn ns) k tx tn := by
  obtain ⟨h1, ⟨a1, a2, a3⟩, ⟨f, n, h3⟩, h4, h5, h6, R, h7⟩ := h
  have hns := h5.2.1
  have hnx := h5.2.2.1
  refine ⟨_, _, gk, ⟨(hf _ (by omega)).trans h1, ⟨(hf _ (by omega)).trans a1, (hf _ (by omega)).trans a2, a3⟩, ⟨f, n, h3.fr (fun q a b => hf q (by omega))⟩, (h4.fr (fun q a b => hf q (by omega))).congr (fun q hq => rcS_0 hq), hH, h6.fr (fun q a b => hf q (by omega)), R, (hf _ (by omega)).trans h7⟩, fun j hj hj2 q hq => ?_, fun hk q hq => ?_⟩
  · rw [rc_at hns hq]
    by_cases y : ns = 4
    · have e : rcn ns = 4 := by
        unfold rcn
        rw [if_pos y]
      rw [e] at hj2 ⊢
      by_cases z : j = 4
      · rw [if_pos z]
        show (if ((nx + 1) % 4 + 3 + j - 4) % 4 = nx then σ else hh _) q = _
        rw [if_pos (by omega)]
      · rw [if_neg z, if_pos ⟨y, hj, by omega⟩]
        show (if ((nx + 1) % 4 + 3 + j - 4) % 4 = nx then σ else hh (((nx + 1) % 4 + 3 + j - 4) % 4)) q = _
        rw [if_neg (by omega), ← hG.1 (j + 1) (by omega) (by omega) q hq]
        have ei : ((nx + 1) % 4 + 3 + j - 4) % 4 = (nx + 3 + (j + 1) - ns) % 4 := by omega
        rw [ei]
    · have e : rcn ns = ns + 1 := by
        unfold rcn
        rw [if_neg y]
      rw [e] at hj2 ⊢
      by_cases z : j = ns + 1
      · rw [if_pos z]
        show (if ((nx + 1) % 4 + 3 + j - (ns + 1)) % 4 = nx then σ else hh _) q = _
        rw [if_pos (by omega)]
      · rw [if_neg z, if_neg (fun v => y v.1)]
        show (if ((nx + 1) % 4 + 3 + j - (ns + 1)) % 4 = nx then σ else hh (((nx + 1) % 4 + 3 + j - (ns + 1)) % 4)) q = _
        rw [if_neg (by omega), ← hG.1 j hj (by omega) q hq]
        have ei : ((nx + 1) % 4 + 3 + j - (ns + 1)) % 4 = (nx + 3 + j - ns) % 4 := by omega
        rw [ei]
  · rw [rc_at hns hq, if_neg (by unfold rcn; split <;> omega), if_neg (by omega)]
    exact hG.2 hk q hq
