/-! ===== a state's object and what it holds ===== -/
def lvis (g : Nat → Int32) (p : Nat) : Int32 := if g (272 + 64 * p + 1) < 0 then -5 else g (272 + 64 * p + 1)
def LbR (w : Wd) (a : Nat) (g : Nat → Int32) (p : Nat) : Prop := ∃ vi, LO w a vi (g (272 + 64 * p + 2)) (g (272 + 64 * p + 3)) (sft g (272 + 64 * p + 4)) (nt (g (272 + 64 * p))) ∧ (0 < nt (g (272 + 64 * p)) → vi = lvis g p)
/-- one rewrite of a visitor for a label -/
def OW (g : Nat → Int32) : Prop := ∀ k j, k < 16 → j < 16 → 0 ≤ g (1808 + 65 * k) → 0 ≤ g (1808 + 65 * j) → g (1808 + 65 * k + 1) = g (1808 + 65 * j + 1) → g (1808 + 65 * k + 2) = g (1808 + 65 * j + 2) → k = j
def SBx (w : Wd) (S : Nat) (g : Nat → Int32) (x6 x7 x8 x9 x10 : Int32) : Prop :=
  w S = some (ob 4 [.ref (S + 1), .ref (S + 2), .ref (S + 3), .ref (S + 4), .ref (S + 5), .ref (S + 6), .int x6, .int x7, .int x8, .int x9, .int x10]) ∧
  (∃ li, w (S + 1) = some (ia 1 4 li) ∧ ∀ r, r < 4 → li r = g (12 + r)) ∧ (∃ ak, w (S + 2) = some (ia 1 4 ak) ∧ ∀ r, r < 4 → ak r = g (8 + r)) ∧
  (∃ ro, w (S + 3) = some (ia 1 8 ro) ∧ ∀ a, a < 8 → ro a = g a) ∧ (∃ ac, w (S + 4) = some (ia 1 10 ac) ∧ ∀ v, v < 10 → ac v = g (22 + v)) ∧
  (∃ lf, w (S + 5) = some (ra 2 24 lf) ∧ ∀ p, p < 24 → lf p = some (S + 72 + 4 * p)) ∧ ∀ p, p < 24 → LbR w (S + 72 + 4 * p) g p
abbrev SB (w : Wd) (S : Nat) (g : Nat → Int32) : Prop := SBx w S g (g 16) (g 17) (g 19) (g 20) (g 21)
def SR (w : Wd) (S : Nat) (g : Nat → Int32) : Prop := SB w S g ∧ (∃ n π κ, RR w (S + 6) g n π κ) ∧ WS g ∧ VI g ∧ OW g
theorem LbR.fr {w w' : Wd} {a p : Nat} {g : Nat → Int32} (h : LbR w a g p) (e : ∀ q, a ≤ q → q < a + 4 → w' q = w q) : LbR w' a g p := by
  obtain ⟨vi, h1, h2⟩ := h
  exact ⟨vi, h1.fr e, h2⟩
theorem LbR.congr {w : Wd} {a p : Nat} {g s : Nat → Int32} (h : LbR w a g p) (e : ∀ q, 272 + 64 * p ≤ q → q < 272 + 64 * p + 64 → s q = g q) : LbR w a s p := by
  obtain ⟨vi, ⟨h1, h2⟩, h3⟩ := h
  have hz := h2.sz.2
  unfold LbR lvis
  rw [e (272 + 64 * p) (by omega) (by omega), e (272 + 64 * p + 1) (by omega) (by omega), e (272 + 64 * p + 2) (by omega) (by omega), e (272 + 64 * p + 3) (by omega) (by omega)]
  exact ⟨vi, ⟨h1, h2.congr (fun i hi => e _ (by omega) (by omega))⟩, h3⟩
theorem SBx.fr {w w' : Wd} {S : Nat} {g : Nat → Int32} {x6 x7 x8 x9 x10 : Int32} (h : SBx w S g x6 x7 x8 x9 x10) (e : ∀ q, S ≤ q → q < S + 168 → (q < S + 6 ∨ S + 72 ≤ q) → w' q = w q) : SBx w' S g x6 x7 x8 x9 x10 := by
  obtain ⟨s1, ⟨li, s2, s2b⟩, ⟨ak, s3, s3b⟩, ⟨ro, s4, s4b⟩, ⟨ac, s5, s5b⟩, ⟨lf, s6, s6b⟩, s7⟩ := h
  refine ⟨(e _ (by omega) (by omega) (by omega)).trans s1, ⟨li, (e _ (by omega) (by omega) (by omega)).trans s2, s2b⟩, ⟨ak, (e _ (by omega) (by omega) (by omega)).trans s3, s3b⟩, ⟨ro, (e _ (by omega) (by omega) (by omega)).trans s4, s4b⟩, ⟨ac, (e _ (by omega) (by omega) (by omega)).trans s5, s5b⟩, ⟨lf, (e _ (by omega) (by omega) (by omega)).trans s6, s6b⟩, fun p hp => (s7 p hp).fr (fun q h1 h2 => e q (by omega) (by omega) (by omega))⟩
theorem SBx.congr {w : Wd} {S : Nat} {g s : Nat → Int32} {x6 x7 x8 x9 x10 : Int32} (h : SBx w S g x6 x7 x8 x9 x10) (e : ∀ q, (q < 16 ∨ (22 ≤ q ∧ q < 32) ∨ (272 ≤ q ∧ q < 1808)) → s q = g q) : SBx w S s x6 x7 x8 x9 x10 := by
  obtain ⟨s1, ⟨li, s2, s2b⟩, ⟨ak, s3, s3b⟩, ⟨ro, s4, s4b⟩, ⟨ac, s5, s5b⟩, ⟨lf, s6, s6b⟩, s7⟩ := h
  refine ⟨s1, ⟨li, s2, fun r hr => (s2b r hr).trans (e _ (by omega)).symm⟩, ⟨ak, s3, fun r hr => (s3b r hr).trans (e _ (by omega)).symm⟩, ⟨ro, s4, fun r hr => (s4b r hr).trans (e _ (by omega)).symm⟩, ⟨ac, s5, fun r hr => (s5b r hr).trans (e _ (by omega)).symm⟩, ⟨lf, s6, s6b⟩, fun p hp => (s7 p hp).congr (fun q h1 h2 => e q (by omega))⟩
theorem OW.congr {g s : Nat → Int32} (h : OW g) (e : ∀ k, k < 16 → s (1808 + 65 * k) = g (1808 + 65 * k) ∧ s (1808 + 65 * k + 1) = g (1808 + 65 * k + 1) ∧ s (1808 + 65 * k + 2) = g (1808 + 65 * k + 2)) : OW s := by
  intro k j hk hj
  rw [(e k hk).1, (e k hk).2.1, (e k hk).2.2, (e j hj).1, (e j hj).2.1, (e j hj).2.2]
  exact h k j hk hj
theorem OW_gone {g : Nat → Int32} (h : OW g) {i : Nat} (hi : i < 16) : OW (gone g i) := by
  intro k j hk hj h0 h1
  have a1 : k ≠ i := fun e => by
    rw [e, gone_k] at h0
    exact absurd h0 (by decide)
  have a2 : j ≠ i := fun e => by
    rw [e, gone_k] at h1
    exact absurd h1 (by decide)
  rw [gone_out (by omega) (by omega)] at h0 h1
  rw [gone_out (by omega) (by omega), gone_out (by omega) (by omega), gone_out (by omega) (by omega), gone_out (by omega) (by omega)]
  exact h k j hk hj h0 h1
theorem SR.fr {w w' : Wd} {S : Nat} {g : Nat → Int32} (h : SR w S g) (e : ∀ q, S ≤ q → q < S + 168 → w' q = w q) : SR w' S g := by
  obtain ⟨h1, ⟨n, π, κ, h2⟩, h3⟩ := h
  exact ⟨h1.fr (fun q a b _ => e q a b), ⟨n, π, κ, h2.fr (fun q a b => e q (by omega) (by omega))⟩, h3⟩
theorem RR.pl {w : Wd} {a n : Nat} {g : Nat → Int32} {π κ : Nat → Nat} (h : RR w a g n π κ) (hW : WS g) : ∀ i, i < n → nt (g (1808 + 65 * κ i + 1)) < 24 := fun i hi => (hW.rw (h.2.1.2.1 i hi).1 (h.2.1.2.1 i hi).2).2.1.2
theorem SR.congr {w : Wd} {S : Nat} {g s : Nat → Int32} (h : SR w S g) (e : ∀ q, q < 2848 → s q = g q) : SR w S s := by
  obtain ⟨h1, ⟨n, π, κ, h2⟩, h3, h4, h5⟩ := h
  refine ⟨?_, ⟨n, π, κ, h2.congr h3 (fun q hq _ => e q hq)⟩, h3.congr e, h4.congr (fun q _ _ => e q (by omega)) (fun k hk => ⟨e _ (by omega), e _ (by omega)⟩), h5.congr (fun k hk => ⟨e _ (by omega), e _ (by omega), e _ (by omega)⟩)⟩
  show SBx w S s (s 16) (s 17) (s 19) (s 20) (s 21)
  rw [e 16 (by omega), e 17 (by omega), e 19 (by omega), e 20 (by omega), e 21 (by omega)]
  exact h1.congr (fun q hq => e q (by omega))
/-! counts over works and tongues -/
def lbP (g : Nat → Int32) (r k p : Nat) : Bool := (g (p / 3) == nI r) && ((askB g r (p % 3) == !decide (k = 2)) && (decide (0 < ln g p) == !decide (k = 1)))
theorem lbI_eq {g : Nat → Int32} {r k a s : Nat} (hk : ¬ k = 3) (h : g a = nI r) : ∀ b, b ≤ 3 → lbI g r k a s b + cnt (lbP g r k) (3 * a) = s + cnt (lbP g r k) (3 * a + b)
  | 0, _ => rfl
  | b + 1, hb => by
    have ih := lbI_eq (s := s) hk h b (by omega)
    have e1 : lbI g r k a s (b + 1) = lbS g r k (lbI g r k a s b) a b := rfl
    have e2 : lbP g r k (3 * a + b) = ((askB g r b == !decide (k = 2)) && (decide (0 < ln g (3 * a + b)) == !decide (k = 1))) := by
      unfold lbP
      rw [show (3 * a + b) / 3 = a by omega, show (3 * a + b) % 3 = b by omega, h]
      simp
    have e3 : cnt (lbP g r k) (3 * a + (b + 1)) = cnt (lbP g r k) (3 * a + b) + (if lbP g r k (3 * a + b) = true then 1 else 0) := rfl
    rw [e1, e3, e2]
    unfold lbS
    rw [if_neg hk]
    omega
theorem lbO_eq {g : Nat → Int32} {r k : Nat} (hk : ¬ k = 3) : ∀ a, lbO g r k a = cnt (lbP g r k) (3 * a)
  | 0 => rfl
  | a + 1 => by
    have ih := lbO_eq (g := g) (r := r) hk a
    have e : lbO g r k (a + 1) = if g a = nI r then lbI g r k a (lbO g r k a) 3 else lbO g r k a := rfl
    rw [e]
    by_cases h : g a = nI r
    · rw [if_pos h]
      have := lbI_eq (s := lbO g r k a) hk h 3 (Nat.le_refl _)
      rw [show 3 * (a + 1) = 3 * a + 3 by omega]
      omega
    · rw [if_neg h, ih]
      have hp : ∀ b, b < 3 → lbP g r k (3 * a + b) = false := fun b hb => by
        unfold lbP
        rw [show (3 * a + b) / 3 = a by omega]
        have : (g a == nI r) = false := by simpa using h
        rw [this]
        rfl
      rw [show 3 * (a + 1) = 3 * a + 0 + 1 + 1 + 1 by omega, cnt_S0 (hp 2 (by omega)), cnt_S0 (hp 1 (by omega)), cnt_S0 (hp 0 (by omega))]
      rfl
def bts (g : Nat → Int32) (r : Nat) : Nat := cnt (fun b => askB g r b) 3
theorem ask3 {m : Nat} (hm : m < 8) : pcn m = cnt (fun b => decide ((nI m >>> (nI b &&& 31)) &&& nI 1 = nI 1)) 3 := by
  have : ∀ m : Fin 8, pcn m.val = cnt (fun b => decide ((nI m.val >>> (nI b &&& 31)) &&& nI 1 = nI 1)) 3 := by decide +kernel
  exact this ⟨m, hm⟩
theorem ask_ok {m b : Nat} (hm : m < 8) (hb : b < 3) : (nI m &&& (nI 1 <<< (nI b &&& 31))) = 0 ↔ decide ((nI m >>> (nI b &&& 31)) &&& nI 1 = nI 1) = false := by
  have : ∀ m : Fin 8, ∀ b : Fin 3, decide ((nI m.val &&& (nI 1 <<< (nI b.val &&& 31))) = 0) = !decide ((nI m.val >>> (nI b.val &&& 31)) &&& nI 1 = nI 1) := by decide +kernel
  have h : decide ((nI m &&& (nI 1 <<< (nI b &&& 31))) = 0) = !decide ((nI m >>> (nI b &&& 31)) &&& nI 1 = nI 1) := this ⟨m, hm⟩ ⟨b, hb⟩
  cases e : decide ((nI m >>> (nI b &&& 31)) &&& nI 1 = nI 1)
  · rw [e] at h
    simpa using h
  · rw [e] at h
    simpa using h
/-- works of a room times the tongues that it asks for -/
theorem works_bits (g : Nat → Int32) (r : Nat) : ∀ a, cnt (fun p => (g (p / 3) == nI r) && askB g r (p % 3)) (3 * a) = cnt (fun a => g a == nI r) a * bts g r
  | 0 => by simp [cnt]
  | a + 1 => by
    have ih := works_bits g r a
    have hq : ∀ b, b < 3 → ((fun p => (g (p / 3) == nI r) && askB g r (p % 3)) (3 * a + b)) = ((g a == nI r) && askB g r b) := fun b hb => by
      show ((g ((3 * a + b) / 3) == nI r) && askB g r ((3 * a + b) % 3)) = _
      rw [show (3 * a + b) / 3 = a by omega, show (3 * a + b) % 3 = b by omega]
    rw [show 3 * (a + 1) = 3 * a + 3 by omega, cnt_split, ih, cnt_congr hq]
    cases h : (g a == nI r)
    · rw [cnt_S0 (p := fun a => g a == nI r) h]
      have : cnt (fun b => false && askB g r b) 3 = 0 := cnt_0 (fun k _ => rfl)
      rw [this]
      omega
    · rw [cnt_S (p := fun a => g a == nI r) h]
      have : cnt (fun b => true && askB g r b) 3 = bts g r := cnt_congr (fun k _ => by simp)
      rw [this, Nat.add_mul]
      omega
theorem cnt_and (p q : Nat → Bool) : ∀ n, cnt p n = cnt (fun k => p k && q k) n + cnt (fun k => p k && !q k) n
  | 0 => rfl
  | n + 1 => by
    have ih := cnt_and p q n
    rcases Bool.eq_false_or_eq_true (p n) with h1 | h1 <;> rcases Bool.eq_false_or_eq_true (q n) with h2 | h2 <;> simp [cnt, h1, h2] <;> omega
theorem miss_eq (g : Nat → Int32) (r : Nat) : cnt (fun a => g a == nI r) 8 * bts g r = lbO g r 0 8 + lbO g r 1 8 := by
  rw [lbO_eq (by decide), lbO_eq (by decide), ← works_bits g r 8, cnt_and _ (fun p => decide (0 < ln g p)) (3 * 8)]
  congr 1
  · refine cnt_congr (fun p hp => ?_)
    unfold lbP
    cases g (p / 3) == nI r <;> cases askB g r (p % 3) <;> cases decide (0 < ln g p) <;> rfl
  · refine cnt_congr (fun p hp => ?_)
    unfold lbP
    cases g (p / 3) == nI r <;> cases askB g r (p % 3) <;> cases decide (0 < ln g p) <;> rfl
/-- the longest -/
def mxI (g : Nat → Int32) (r : Nat) : Nat → Nat
  | 0 => 0
  | p + 1 => if g (p / 3) = nI r then (if mxI g r p < nwl g p then nwl g p else mxI g r p) else mxI g r p
theorem mx_I {g : Nat → Int32} {r a : Nat} (h : g a = nI r) : ∀ b, b ≤ 3 → lbI g r 3 a (mxI g r (3 * a)) b = mxI g r (3 * a + b)
  | 0, _ => rfl
  | b + 1, hb => by
    have ih := mx_I h b (by omega)
    have e1 : lbI g r 3 a (mxI g r (3 * a)) (b + 1) = lbS g r 3 (lbI g r 3 a (mxI g r (3 * a)) b) a b := rfl
    rw [e1, ih, show 3 * a + (b + 1) = 3 * a + b + 1 from rfl, mxI, show (3 * a + b) / 3 = a by omega, if_pos h]
    unfold lbS
    rw [if_pos rfl]
theorem mx_O (g : Nat → Int32) (r : Nat) : ∀ a, lbO g r 3 a = mxI g r (3 * a)
  | 0 => rfl
  | a + 1 => by
    have ih := mx_O g r a
    have e : lbO g r 3 (a + 1) = if g a = nI r then lbI g r 3 a (lbO g r 3 a) 3 else lbO g r 3 a := rfl
    rw [e, ih]
    by_cases h : g a = nI r
    · rw [if_pos h, mx_I h 3 (Nat.le_refl _)]
      rfl
    · rw [if_neg h]
      have hp : ∀ b, b < 3 → mxI g r (3 * a + b + 1) = mxI g r (3 * a + b) := fun b hb => by
        rw [mxI, show (3 * a + b) / 3 = a by omega, if_neg h]
      rw [show 3 * (a + 1) = 3 * a + 2 + 1 by omega, hp 2 (by omega), show 3 * a + 2 = 3 * a + 1 + 1 by omega, hp 1 (by omega), show 3 * a + 1 = 3 * a + 0 + 1 by omega, hp 0 (by omega)]
      rfl
/-! labels cut -/
theorem caS_21 (g : Nat → Int32) (a lim : Nat) : ∀ i, caS g a lim i 21 = g 21 + nI (caN g a lim i)
  | 0 => (Int32.add_zero _).symm
  | i + 1 => by
    have ih := caS_21 g a lim i
    have e1 : caS g a lim (i + 1) = cutS (caS g a lim i) (3 * a + i) lim := rfl
    have e2 : caN g a lim (i + 1) = caN g a lim i + (if cutB (caS g a lim i) (3 * a + i) lim = true then 1 else 0) := rfl
    rw [e1, e2]
    cases h : cutB (caS g a lim i) (3 * a + i) lim
    · rw [cutS_F h, ih]
      rfl
    · rw [cutS_T h, up_eq, ih, Int32.add_assoc]
      rw [nI_addN]
      rfl
theorem WS_cut {g : Nat → Int32} (h : WS g) {p lim : Nat} (hp : p < 24) (hl : 1 ≤ lim) : WS (cutS g p lim) := by
  cases hc : cutB g p lim
  · rw [cutS_F hc]; exact h
  · have hp2 := h.2.2.2.2.2.1 p hp
    have hcb : lim < nw (sft g (272 + 64 * p + 4)) (nt (g (272 + 64 * p))) := by
      unfold cutB at hc
      simpa using hc
    have hn : 0 < nt (g (272 + 64 * p)) := (nw_pos (f := sft g (272 + 64 * p + 4))).mp (by omega)
    have hok := hp2.2.resolve_left (by omega)
    have hb := cut_ok hok hl hcb
    have h61 := hp2.1.2
    have e0 : cutS g p lim (272 + 64 * p) = nI (beg (sft g (272 + 64 * p + 4)) (nt (g (272 + 64 * p))) lim - 1) := by
      rw [cutS_T hc, up_ne _ _ (by omega), up_ne _ _ (by omega), up_eq]
    refine WS_lab h hp (fun q hq => cutS_out (by omega) (by omega) (by omega)) (fun q a b c => cutS_out (by omega) (by omega) (by omega)) ?_
    rw [e0, nt_nI (by omega)]
    refine ⟨ub_nI (by omega) (by omega), Or.inr (okT_congr (fun j hj => ?_) hb.1)⟩
    show g (272 + 64 * p + 4 + j) = cutS g p lim (272 + 64 * p + 4 + j)
    rw [cutS_out (by omega) (by omega) (by omega)]
/-- one label cut, in the heap -/
theorem LbR_cut {w : Wd} {A : Nat} {g : Nat → Int32} {p lim : Nat} {vi : Int32} (hv : 0 < nt (g (272 + 64 * p)) → vi = lvis g p) (h61 : nt (g (272 + 64 * p)) < 61) (h : LO w A vi (g (272 + 64 * p + 2)) (if lim < nw (sft g (272 + 64 * p + 4)) (nt (g (272 + 64 * p))) then g (272 + 64 * p + 3) + nI 1 else g (272 + 64 * p + 3)) (sft g (272 + 64 * p + 4)) (if lim < nw (sft g (272 + 64 * p + 4)) (nt (g (272 + 64 * p))) then beg (sft g (272 + 64 * p + 4)) (nt (g (272 + 64 * p))) lim - 1 else nt (g (272 + 64 * p)))) : LbR w A (cutS g p lim) p := by
  cases hc : cutB g p lim
  · have hcb : ¬ lim < nw (sft g (272 + 64 * p + 4)) (nt (g (272 + 64 * p))) := by
      unfold cutB at hc
      simpa using hc
    rw [if_neg hcb, if_neg hcb] at h
    rw [cutS_F hc]
    exact ⟨vi, h, hv⟩
  · have hcb : lim < nw (sft g (272 + 64 * p + 4)) (nt (g (272 + 64 * p))) := by
      unfold cutB at hc
      simpa using hc
    rw [if_pos hcb, if_pos hcb] at h
    have hn : 0 < nt (g (272 + 64 * p)) := (nw_pos (f := sft g (272 + 64 * p + 4))).mp (by omega)
    have hz := h.2.sz.2
    have e0 : cutS g p lim (272 + 64 * p) = nI (beg (sft g (272 + 64 * p + 4)) (nt (g (272 + 64 * p))) lim - 1) := by
      rw [cutS_T hc, up_ne _ _ (by omega), up_ne _ _ (by omega), up_eq]
    have e3 : cutS g p lim (272 + 64 * p + 3) = g (272 + 64 * p + 3) + nI 1 := by
      rw [cutS_T hc, up_ne _ _ (by omega), up_eq]
    unfold LbR lvis
    rw [e0, e3, nt_nI (by omega), cutS_out (by omega) (by omega) (by omega), cutS_out (by omega) (by omega) (by omega)]
    exact ⟨vi, ⟨h.1, h.2.congr (fun j hj => cutS_out (by omega) (by omega) (by omega))⟩, fun _ => hv hn⟩
