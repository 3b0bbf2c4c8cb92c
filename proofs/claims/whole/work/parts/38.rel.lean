/-! ===== rewrites: the sixteen places of the numbers, and rows by their numbers ===== -/
abbrev nu (g : Nat → Int32) (k : Nat) : Int32 := g (1808 + 65 * k)
abbrev pl (g : Nat → Int32) (k : Nat) : Nat := nt (g (1808 + 65 * k + 1))
/-- the rows n by κ are the rewrites that there are, by their numbers -/
def KR (g : Nat → Int32) (n : Nat) (κ : Nat → Nat) : Prop := n ≤ 16 ∧ (∀ i, i < n → κ i < 16 ∧ 0 ≤ g (1808 + 65 * κ i)) ∧ (∀ i j, i < j → j < n → g (1808 + 65 * κ i) < g (1808 + 65 * κ j)) ∧ (∀ k, k < 16 → 0 ≤ g (1808 + 65 * k) → ∃ i, i < n ∧ κ i = k)
/-- numbers are each but one rewrite's -/
def DI (g : Nat → Int32) : Prop := ∀ k j, k < 16 → j < 16 → 0 ≤ g (1808 + 65 * k) → g (1808 + 65 * k) = g (1808 + 65 * j) → k = j
/-- a vote is for a rewrite that there is, in its place -/
def VI (g : Nat → Int32) : Prop := ∀ q, q < 240 → g (32 + q) = -1 ∨ ∃ k, k < 16 ∧ 0 ≤ g (1808 + 65 * k) ∧ g (32 + q) = g (1808 + 65 * k) ∧ g (1808 + 65 * k + 1) = nI (q % 24)
theorem i_irr {a : Int32} (h : a < a) : False := by
  have := Int32.lt_iff_toInt_lt.mp h
  omega
theorem i_tr {a b c : Int32} (h : a < b) (h2 : b < c) : a < c := by
  have h := Int32.lt_iff_toInt_lt.mp h
  have h2 := Int32.lt_iff_toInt_lt.mp h2
  exact Int32.lt_iff_toInt_lt.mpr (by omega)
theorem i_tri {a b : Int32} (h : ¬ a = b) : a < b ∨ b < a := by
  by_cases e : a < b
  · exact Or.inl e
  · right
    have e1 := Int32.le_iff_toInt_le.mp (Int32.not_lt.mp e)
    refine Int32.lt_iff_toInt_lt.mpr ?_
    have : a.toInt ≠ b.toInt := fun z => h (Int32.toInt_inj.mp z)
    omega
theorem i_m1 {a : Int32} (h : 0 ≤ a) : ¬ a = -1 := by
  intro e
  rw [e] at h
  exact absurd h (by decide)
theorem KR.inj {g : Nat → Int32} {n : Nat} {κ : Nat → Nat} (h : KR g n κ) {i j : Nat} (hi : i < n) (hj : j < n) (e : g (1808 + 65 * κ i) = g (1808 + 65 * κ j)) : i = j := by
  rcases Nat.lt_trichotomy i j with z | z | z
  · have := h.2.2.1 i j z hj
    rw [e] at this
    exact (i_irr this).elim
  · exact z
  · have := h.2.2.1 j i z hi
    rw [e] at this
    exact (i_irr this).elim
theorem KR.di {g : Nat → Int32} {n : Nat} {κ : Nat → Nat} (h : KR g n κ) : DI g := by
  intro k j hk hj h0 e
  obtain ⟨i, hi, rfl⟩ := h.2.2.2 k hk h0
  obtain ⟨i', hi', rfl⟩ := h.2.2.2 j hj (by rw [← e]; exact h0)
  rw [h.inj hi hi' e]
theorem KR_cnt {g : Nat → Int32} {n : Nat} {κ : Nat → Nat} (h : KR g n κ) (P : Nat → Bool) : cnt (fun i => P (κ i)) n = cnt (fun k => decide (0 ≤ g (1808 + 65 * k)) && P k) 16 := by
  refine cnt_bij κ (fun i hi hp => ⟨(h.2.1 i hi).1, ?_⟩) (fun i j hi hj _ _ e => h.inj hi hj (by rw [e])) (fun k hk hq => ?_)
  · show (decide (0 ≤ g (1808 + 65 * κ i)) && P (κ i)) = true
    rw [decide_eq_true (h.2.1 i hi).2, hp]
    rfl
  · rw [Bool.and_eq_true, decide_eq_true_eq] at hq
    obtain ⟨i, hi, e⟩ := h.2.2.2 k hk hq.1
    exact ⟨i, hi, by show P (κ i) = true; rw [e]; exact hq.2, e⟩
theorem vi_at {g : Nat → Int32} (hV : VI g) (hD : DI g) {q k : Nat} (hq : q < 240) (hk : k < 16) (h0 : 0 ≤ g (1808 + 65 * k)) (e : g (32 + q) = g (1808 + 65 * k)) : g (1808 + 65 * k + 1) = nI (q % 24) := by
  rcases hV q hq with z | ⟨j, hj, j0, j1, j2⟩
  · exact absurd (e.symm.trans z) (i_m1 h0)
  · have := hD k j hk hj h0 (e.symm.trans j1)
    subst this
    exact j2
theorem vfk_eq {g : Nat → Int32} (hW : WS g) (hV : VI g) (hD : DI g) {k V : Nat} (hk : k < 16) (h0 : 0 ≤ g (1808 + 65 * k)) (hb : ∀ v, v < 10 → V.testBit v = (g (32 + 24 * v + nt (g (1808 + 65 * k + 1))) == g (1808 + 65 * k))) : pcn V = vfk g k := by
  have hr := hW.rw hk h0
  have hp := hr.2.1.2
  unfold pcn vfk
  refine cnt_bij (fun v => 24 * v + nt (g (1808 + 65 * k + 1))) (fun v hv hp => ⟨by omega, ?_⟩) (fun i j _ _ _ _ e => by omega) (fun q hq he => ?_)
  · show (g (32 + (24 * v + nt (g (1808 + 65 * k + 1)))) == g (1808 + 65 * k)) = true
    rw [← Nat.add_assoc, ← hb v hv]
    exact hp
  · have he : g (32 + q) = g (1808 + 65 * k) := by simpa using he
    have e1 := vi_at hV hD hq hk h0 he
    have e2 : nt (g (1808 + 65 * k + 1)) = q % 24 := by rw [e1, nt_nI (by omega)]
    refine ⟨q / 24, by omega, ?_, by show 24 * (q / 24) + nt (g (1808 + 65 * k + 1)) = q; rw [e2]; omega⟩
    rw [hb _ (by omega), e2, show 32 + 24 * (q / 24) + q % 24 = 32 + q by omega, he]
    simp
theorem vo_eq {g : Nat → Int32} (hW : WS g) (hV : VI g) {n : Nat} {κ : Nat → Nat} (h : KR g n κ) {v : Nat} (hv : v < 10) : cnt (fun i => g (32 + 24 * v + nt (g (1808 + 65 * κ i + 1))) == g (1808 + 65 * κ i)) n = vo g v := by
  unfold vo
  refine cnt_bij (fun i => nt (g (1808 + 65 * κ i + 1))) (fun i hi he => ?_) (fun i j hi hj p q e => ?_) (fun p hp he => ?_)
  · have hk := h.2.1 i hi
    have hr := hW.rw hk.1 hk.2
    refine ⟨hr.2.1.2, ?_⟩
    have he : g (32 + 24 * v + nt (g (1808 + 65 * κ i + 1))) = g (1808 + 65 * κ i) := by simpa using he
    show decide (0 ≤ g (32 + 24 * v + nt (g (1808 + 65 * κ i + 1)))) = true
    rw [he]
    exact decide_eq_true hk.2
  · have p : g (32 + 24 * v + nt (g (1808 + 65 * κ i + 1))) = g (1808 + 65 * κ i) := by simpa using p
    have q : g (32 + 24 * v + nt (g (1808 + 65 * κ j + 1))) = g (1808 + 65 * κ j) := by simpa using q
    have e : nt (g (1808 + 65 * κ i + 1)) = nt (g (1808 + 65 * κ j + 1)) := e
    rw [e] at p
    exact h.inj hi hj (p.symm.trans q)
  · have he : 0 ≤ g (32 + 24 * v + p) := by simpa using he
    rcases hV (24 * v + p) (by omega) with z | ⟨k, hk, k0, k1, k2⟩
    · rw [← Nat.add_assoc] at z
      exact absurd z (i_m1 he)
    · obtain ⟨i, hi, e⟩ := h.2.2.2 k hk k0
      have e2 : nt (g (1808 + 65 * κ i + 1)) = p := by
        rw [e, k2, nt_nI (by omega)]
        omega
      refine ⟨i, hi, ?_, e2⟩
      show (g (32 + 24 * v + nt (g (1808 + 65 * κ i + 1))) == g (1808 + 65 * κ i)) = true
      rw [e2, e, Nat.add_assoc, k1]
      simp
theorem av_eq {g : Nat → Int32} (hW : WS g) (hV : VI g) {n : Nat} {κ Vf : Nat → Nat} (h : KR g n κ) (hb : ∀ i, i < n → ∀ v, v < 10 → (Vf i).testBit v = (g (32 + 24 * v + nt (g (1808 + 65 * κ i + 1))) == g (1808 + 65 * κ i))) : smN (fun i => pcn (Vf i)) n = smN (vo g) 10 := by
  have e1 : smN (fun i => pcn (Vf i)) n = smN (fun i => smN (fun v => if (g (32 + 24 * v + nt (g (1808 + 65 * κ i + 1))) == g (1808 + 65 * κ i)) = true then 1 else 0) 10) n := by
    refine smN_congr (fun i hi => ?_)
    unfold pcn
    rw [smN_cnt (fun v => g (32 + 24 * v + nt (g (1808 + 65 * κ i + 1))) == g (1808 + 65 * κ i)) 10]
    exact cnt_congr (fun v hv => hb i hi v hv)
  rw [e1, smN_swap]
  refine smN_congr (fun v hv => ?_)
  rw [smN_cnt (fun i => g (32 + 24 * v + nt (g (1808 + 65 * κ i + 1))) == g (1808 + 65 * κ i)) n]
  exact vo_eq hW hV h hv
/-! ranks -/
theorem cnt_sub {p q : Nat → Bool} {n : Nat} (h : ∀ i, i < n → p i = true → q i = true) : cnt p n ≤ cnt q n := cnt_inj (f := fun i => i) (fun i hi hp => ⟨hi, h i hi hp⟩) (fun _ _ _ _ _ _ e => e)
theorem cnt_sub1 {p q : Nat → Bool} {n k : Nat} (h : ∀ i, i < n → p i = true → q i = true) (hk : k < n) (h1 : q k = true) (h2 : p k = false) : cnt p n < cnt q n := by
  have a1 := cnt_del h1 hk
  have a2 : cnt p n ≤ cnt (fun i => q i && !(i == k)) n := cnt_sub (fun i hi hp => by
    have : i ≠ k := fun e => by rw [e, h2] at hp; cases hp
    have e2 : (i == k) = false := by simpa using this
    show (q i && !(i == k)) = true
    rw [e2, h i hi hp]
    rfl)
  omega
/-- j stands ahead of k -/
def bef (g : Nat → Int32) (j k : Nat) : Prop := vfk g k < vfk g j ∨ (vfk g j = vfk g k ∧ g (1808 + 65 * j) < g (1808 + 65 * k))
theorem ahd_iff {g : Nat → Int32} {k j : Nat} : ahd g k j = true ↔ 0 ≤ g (1808 + 65 * j) ∧ g (1808 + 65 * j + 1) = g (1808 + 65 * k + 1) ∧ bef g j k := by
  unfold ahd bef
  simp [and_assoc]
theorem bef_lt {g : Nat → Int32} {k j : Nat} (hj : j < 16) (h0 : 0 ≤ g (1808 + 65 * j)) (hp : g (1808 + 65 * j + 1) = g (1808 + 65 * k + 1)) (h : bef g j k) : cnt (ahd g j) 16 < cnt (ahd g k) 16 := by
  refine cnt_sub1 (k := j) (fun i hi ha => ?_) hj (ahd_iff.mpr ⟨h0, hp, h⟩) ?_
  · have a := ahd_iff.mp ha
    refine ahd_iff.mpr ⟨a.1, a.2.1.trans hp, ?_⟩
    rcases a.2.2 with b | b <;> rcases h with c | c
    · exact Or.inl (by omega)
    · exact Or.inl (by omega)
    · exact Or.inl (by omega)
    · exact Or.inr ⟨by omega, i_tr b.2 c.2⟩
  · cases e : ahd g j j
    · rfl
    · have a := (ahd_iff.mp e).2.2
      rcases a with b | b
      · omega
      · exact (i_irr b.2).elim
theorem rank_inj {g : Nat → Int32} (hD : DI g) {k j : Nat} (hk : k < 16) (hj : j < 16) (k0 : 0 ≤ g (1808 + 65 * k)) (j0 : 0 ≤ g (1808 + 65 * j)) (hp : g (1808 + 65 * k + 1) = g (1808 + 65 * j + 1)) (e : cnt (ahd g k) 16 = cnt (ahd g j) 16) : k = j := by
  by_cases h : k = j
  · exact h
  · have hne : ¬ g (1808 + 65 * k) = g (1808 + 65 * j) := fun z => h (hD k j hk hj k0 z)
    have : bef g k j ∨ bef g j k := by
      unfold bef
      rcases Nat.lt_trichotomy (vfk g k) (vfk g j) with z | z | z
      · exact Or.inr (Or.inl z)
      · rcases i_tri hne with y | y
        · exact Or.inl (Or.inr ⟨z, y⟩)
        · exact Or.inr (Or.inr ⟨z.symm, y⟩)
      · exact Or.inl (Or.inl z)
    rcases this with z | z
    · have := bef_lt hk k0 hp z
      omega
    · have := bef_lt hj j0 hp.symm z
      omega
/-! the best -/
def okB (g : Nat → Int32) (p nd lim k : Nat) : Bool := cand g p k && decide (nd ≤ vfk g k) && decide (nwr g k ≤ lim)
theorem okB_0 {g : Nat → Int32} {p nd lim k : Nat} (h : okB g p nd lim k = true) : 0 ≤ g (1808 + 65 * k) := by
  unfold okB at h
  rw [Bool.and_eq_true, Bool.and_eq_true] at h
  exact cand_0 h.1.1
theorem btr_iff {g : Nat → Int32} {k f : Nat} : btr g k f = true ↔ vfk g f < vfk g k ∨ (vfk g k = vfk g f ∧ (nwr g k < nwr g f ∨ (nwr g k = nwr g f ∧ g (1808 + 65 * k) < g (1808 + 65 * f)))) := by
  unfold btr
  simp
theorem btr_tr {g : Nat → Int32} {a b c : Nat} (h : btr g a b = true) (h2 : btr g b c = true) : btr g a c = true := by
  have h := btr_iff.mp h
  have h2 := btr_iff.mp h2
  refine btr_iff.mpr ?_
  rcases h with h | ⟨e, h⟩
  · rcases h2 with h2 | ⟨e2, -⟩
    · exact Or.inl (by omega)
    · exact Or.inl (by omega)
  · rcases h2 with h2 | ⟨e2, h2⟩
    · exact Or.inl (by omega)
    · refine Or.inr ⟨by omega, ?_⟩
      rcases h with h | ⟨e3, h⟩
      · rcases h2 with h2 | ⟨e4, -⟩
        · exact Or.inl (by omega)
        · exact Or.inl (by omega)
      · rcases h2 with h2 | ⟨e4, h2⟩
        · exact Or.inl (by omega)
        · exact Or.inr ⟨by omega, i_tr h h2⟩
theorem btr_as {g : Nat → Int32} {a b : Nat} (h : btr g a b = true) (h2 : btr g b a = true) : False := by
  have h := btr_iff.mp h
  have h2 := btr_iff.mp h2
  rcases h with h | ⟨e, h⟩
  · rcases h2 with h2 | ⟨e2, -⟩ <;> omega
  · rcases h2 with h2 | ⟨e2, h2⟩
    · omega
    · rcases h with h | ⟨e3, h⟩
      · rcases h2 with h2 | ⟨e4, -⟩ <;> omega
      · rcases h2 with h2 | ⟨e4, h2⟩
        · omega
        · exact i_irr (i_tr h h2)
theorem btr_tot {g : Nat → Int32} {a b : Nat} (h : ¬ g (1808 + 65 * a) = g (1808 + 65 * b)) (h2 : ¬ btr g a b = true) : btr g b a = true := by
  rw [btr_iff] at h2 ⊢
  rcases Nat.lt_trichotomy (vfk g a) (vfk g b) with z | z | z
  · exact Or.inl z
  · rcases Nat.lt_trichotomy (nwr g a) (nwr g b) with y | y | y
    · exact absurd (Or.inr ⟨z, Or.inl y⟩) h2
    · rcases i_tri h with x | x
      · exact absurd (Or.inr ⟨z, Or.inr ⟨y, x⟩⟩) h2
      · exact Or.inr ⟨z.symm, Or.inr ⟨y.symm, x⟩⟩
    · exact Or.inr ⟨z.symm, Or.inl y⟩
  · exact absurd (Or.inl z) h2
/-- b is the best of the first i (or none of them is allowed) -/
def bsP (ok : Nat → Bool) (bt : Nat → Nat → Bool) (i : Nat) (b : Option Nat) : Prop := match b with
  | none => ∀ k, k < i → ok k = false
  | some j => j < i ∧ ok j = true ∧ ∀ k, k < i → ok k = true → k ≠ j → bt j k = true
theorem bst_P {g : Nat → Int32} (hD : DI g) {p nd lim : Nat} : ∀ i, i ≤ 16 → bsP (okB g p nd lim) (btr g) i (bst g p nd lim i)
  | 0, _ => fun k hk => absurd hk (Nat.not_lt_zero _)
  | i + 1, hi => by
    have ih := bst_P hD (p := p) (nd := nd) (lim := lim) i (by omega)
    have e0 : bst g p nd lim (i + 1) = bsS g p nd lim (bst g p nd lim i) i := rfl
    rw [e0]
    have hs : ∀ f, bsS g p nd lim f i = if (okB g p nd lim i && (match f with | none => true | some h => btr g i h)) = true then some i else f := fun f => by
      unfold bsS okB
      rfl
    rw [hs]
    cases hb : bst g p nd lim i with
    | none =>
      rw [hb] at ih
      have ih : ∀ k, k < i → okB g p nd lim k = false := ih
      cases ho : okB g p nd lim i
      · rw [if_neg (by simp)]
        intro k hk
        by_cases e : k = i
        · rw [e]; exact ho
        · exact ih k (by omega)
      · rw [if_pos (by simp)]
        refine ⟨by omega, ho, fun k hk hok hne => ?_⟩
        rw [ih k (by omega)] at hok
        cases hok
    | some j =>
      rw [hb] at ih
      obtain ⟨h1, h2, h3⟩ : j < i ∧ okB g p nd lim j = true ∧ ∀ k, k < i → okB g p nd lim k = true → k ≠ j → btr g j k = true := ih
      by_cases hq : okB g p nd lim i = true ∧ btr g i j = true
      · rw [if_pos (by simp [hq.1, hq.2])]
        refine ⟨by omega, hq.1, fun k hk hok hne => ?_⟩
        by_cases e : k = j
        · rw [e]; exact hq.2
        · exact btr_tr hq.2 (h3 k (by omega) hok e)
      · rw [if_neg (by simpa using hq)]
        refine ⟨by omega, h2, fun k hk hok hne => ?_⟩
        by_cases e : k = i
        · rw [e] at hok ⊢
          refine btr_tot (fun z => ?_) (fun z => hq ⟨hok, z⟩)
          have := hD i j (by omega) (by omega) (okB_0 hok) z
          omega
        · exact h3 k (by omega) hok hne
theorem best_eq {g : Nat → Int32} {n : Nat} {κ : Nat → Nat} (h : KR g n κ) {p nd lim : Nat} {b : Option Nat} (hb : bsP (fun i => okB g p nd lim (κ i)) (fun i j => btr g (κ i) (κ j)) n b) : bst g p nd lim 16 = b.map κ := by
  have hB := bst_P h.di (p := p) (nd := nd) (lim := lim) 16 (Nat.le_refl _)
  cases hc : bst g p nd lim 16 with
  | none =>
    rw [hc] at hB
    have hB : ∀ k, k < 16 → okB g p nd lim k = false := hB
    cases b with
    | none => rfl
    | some j =>
      obtain ⟨h1, h2, -⟩ : j < n ∧ okB g p nd lim (κ j) = true ∧ _ := hb
      rw [hB _ (h.2.1 j h1).1] at h2
      cases h2
  | some k =>
    rw [hc] at hB
    obtain ⟨k1, k2, k3⟩ : k < 16 ∧ okB g p nd lim k = true ∧ ∀ j, j < 16 → okB g p nd lim j = true → j ≠ k → btr g k j = true := hB
    obtain ⟨i, hi, e⟩ := h.2.2.2 k k1 (okB_0 k2)
    cases b with
    | none =>
      have this : okB g p nd lim (κ i) = false := hb i hi
      rw [e, k2] at this
      cases this
    | some j =>
      obtain ⟨h1, h2, h3⟩ : j < n ∧ okB g p nd lim (κ j) = true ∧ ∀ i, i < n → okB g p nd lim (κ i) = true → i ≠ j → btr g (κ j) (κ i) = true := hb
      show some k = some (κ j)
      by_cases z : κ j = k
      · rw [z]
      · exfalso
        have a1 := k3 (κ j) (h.2.1 j h1).1 h2 z
        have a2 := h3 i hi (by rw [e]; exact k2) (fun y => z (by rw [← y, e]))
        rw [e] at a2
        exact btr_as a1 a2
/-! a rewrite that goes -/
def cutK (κ : Nat → Nat) (j : Nat) : Nat → Nat := fun i => if i < j then κ i else κ (i + 1)
theorem gone_v {g : Nat → Int32} {k q : Nat} (hk : 32 ≤ q ∧ q < 272) : gone g k q = if g q = g (1808 + 65 * k) then -1 else g q := by
  unfold gone
  rw [up_ne _ _ (by omega)]
  unfold gv
  by_cases e : g q = g (1808 + 65 * k)
  · rw [if_pos ⟨hk.1, by omega, e⟩, if_pos e]
  · rw [if_neg (fun z => e z.2.2), if_neg e]
theorem KR_gone {g : Nat → Int32} {n : Nat} {κ : Nat → Nat} (h : KR g n κ) {j : Nat} (hj : j < n) : KR (gone g (κ j)) (n - 1) (cutK κ j) := by
  have hne : ∀ i, i < n → i ≠ j → κ i ≠ κ j := fun i hi hn e => hn (h.inj hi hj (by rw [e]))
  have hc : ∀ i, i < n - 1 → ∃ i', i' < n ∧ i' ≠ j ∧ cutK κ j i = κ i' ∧ (i < j → i' = i) ∧ (j ≤ i → i' = i + 1) := fun i hi => by
    unfold cutK
    by_cases e : i < j
    · exact ⟨i, by omega, by omega, by rw [if_pos e], fun _ => rfl, fun z => by omega⟩
    · exact ⟨i + 1, by omega, by omega, by rw [if_neg e], fun z => by omega, fun _ => rfl⟩
  have hg : ∀ k, k ≠ κ j → gone g (κ j) (1808 + 65 * k) = g (1808 + 65 * k) := fun k hk => gone_out (by omega) (by omega)
  refine ⟨by have := h.1; omega, fun i hi => ?_, fun i i2 hi hi2 => ?_, fun k hk h0 => ?_⟩
  · obtain ⟨a, a1, a2, a3, -⟩ := hc i hi
    rw [a3, hg _ (hne a a1 a2)]
    exact h.2.1 a a1
  · obtain ⟨a, a1, a2, a3, a4, a5⟩ := hc i (by omega)
    obtain ⟨b, b1, b2, b3, b4, b5⟩ := hc i2 hi2
    rw [a3, b3, hg _ (hne a a1 a2), hg _ (hne b b1 b2)]
    refine h.2.2.1 a b ?_ b1
    by_cases e : i < j
    · have := a4 e
      by_cases e2 : i2 < j
      · have := b4 e2; omega
      · have := b5 (by omega); omega
    · have := a5 (by omega)
      have := b5 (by omega)
      omega
  · have hkj : k ≠ κ j := fun e => by
      rw [e, gone_k] at h0
      exact absurd h0 (by decide)
    rw [hg k hkj] at h0
    obtain ⟨i, hi, e⟩ := h.2.2.2 k hk h0
    have hij : i ≠ j := fun z => hkj (by rw [← e, z])
    by_cases z : i < j
    · exact ⟨i, by omega, by unfold cutK; rw [if_pos z]; exact e⟩
    · exact ⟨i - 1, by omega, by unfold cutK; rw [if_neg (by omega), show i - 1 + 1 = i by omega]; exact e⟩
theorem KR.congr {g s : Nat → Int32} {n : Nat} {κ : Nat → Nat} (h : KR g n κ) (e : ∀ k, k < 16 → s (1808 + 65 * k) = g (1808 + 65 * k)) : KR s n κ := by
  obtain ⟨h1, h2, h3, h4⟩ := h
  refine ⟨h1, fun i hi => ?_, fun i j hi hj => ?_, fun k hk h0 => ?_⟩
  · rw [e _ (h2 i hi).1]; exact h2 i hi
  · rw [e _ (h2 i (by omega)).1, e _ (h2 j hj).1]; exact h3 i j hi hj
  · rw [e k hk] at h0
    exact h4 k hk h0
theorem VI.congr {g s : Nat → Int32} (h : VI g) (e : ∀ q, 32 ≤ q → q < 272 → s q = g q) (e2 : ∀ k, k < 16 → s (1808 + 65 * k) = g (1808 + 65 * k) ∧ s (1808 + 65 * k + 1) = g (1808 + 65 * k + 1)) : VI s := by
  intro q hq
  rw [e _ (by omega) (by omega)]
  rcases h q hq with z | ⟨k, hk, a, b, c⟩
  · exact Or.inl z
  · exact Or.inr ⟨k, hk, by rw [(e2 k hk).1]; exact a, by rw [(e2 k hk).1]; exact b, by rw [(e2 k hk).2]; exact c⟩
theorem VI_gone {g : Nat → Int32} (h : VI g) {k : Nat} (hk : k < 16) : VI (gone g k) := by
  intro q hq
  rw [gone_v ⟨by omega, by omega⟩]
  by_cases e : g (32 + q) = g (1808 + 65 * k)
  · rw [if_pos e]; exact Or.inl rfl
  · rw [if_neg e]
    rcases h q hq with z | ⟨j, hj, a, b, c⟩
    · exact Or.inl z
    · have hjk : j ≠ k := fun z => e (by rw [b, z])
      exact Or.inr ⟨j, hj, by rw [gone_out (by omega) (by omega)]; exact a, by rw [gone_out (by omega) (by omega)]; exact b, by rw [gone_out (by omega) (by omega)]; exact c⟩
/-! a week: what ages and falls -/
def fal (g : Nat → Int32) (D : Nat → Bool) (k : Nat) : Bool := D k && decide (0 ≤ g (1808 + 65 * k)) && decide (g (1808 + 65 * k + 3) + nI 1 = nI 3)
def agP (g s : Nat → Int32) (D : Nat → Bool) : Prop :=
  (∀ q, q < 32 → q ≠ 20 → s q = g q) ∧ s 20 = g 20 + nI (cnt (fal g D) 16) ∧ (∀ q, 272 ≤ q → q < 1808 → s q = g q) ∧
  (∀ k, k < 16 → ∀ r, r < 65 → r ≠ 0 → r ≠ 3 → s (1808 + 65 * k + r) = g (1808 + 65 * k + r)) ∧
  (∀ k, k < 16 → s (1808 + 65 * k) = if fal g D k = true then -1 else g (1808 + 65 * k)) ∧
  (∀ k, k < 16 → s (1808 + 65 * k + 3) = if (D k && decide (0 ≤ g (1808 + 65 * k))) = true then g (1808 + 65 * k + 3) + nI 1 else g (1808 + 65 * k + 3)) ∧
  (∀ q, 32 ≤ q → q < 272 → ((∃ k, k < 16 ∧ fal g D k = true ∧ g q = g (1808 + 65 * k)) → s q = -1) ∧ ((¬ ∃ k, k < 16 ∧ fal g D k = true ∧ g q = g (1808 + 65 * k)) → s q = g q))
theorem agP_0 (g : Nat → Int32) {D : Nat → Bool} (h : ∀ k, k < 16 → (D k && decide (0 ≤ g (1808 + 65 * k))) = false) : agP g g D := by
  have hf : ∀ k, k < 16 → fal g D k = false := fun k hk => by
    unfold fal
    rw [h k hk]
    rfl
  have hc : cnt (fal g D) 16 = 0 := cnt_0 hf
  refine ⟨fun q _ _ => rfl, ?_, fun q _ _ => rfl, fun k _ r _ _ _ => rfl, fun k hk => ?_, fun k hk => ?_, fun q h1 h2 => ⟨fun ⟨k, hk, a, _⟩ => ?_, fun _ => rfl⟩⟩
  · rw [hc]
    exact (Int32.add_zero _).symm
  · rw [hf k hk, if_neg (by decide)]
  · rw [h k hk, if_neg (by decide)]
  · rw [hf k hk] at a
    cases a
def unK (D : Nat → Bool) (k : Nat) : Nat → Bool := fun j => D j || (j == k)
theorem unK_k (D : Nat → Bool) (k : Nat) : unK D k k = true := by simp [unK]
theorem unK_ne (D : Nat → Bool) {k j : Nat} (h : j ≠ k) : unK D k j = D j := by simp [unK, h]
theorem agP_congrD {g s : Nat → Int32} {D E : Nat → Bool} (h : agP g s D) (e : ∀ k, k < 16 → (E k && decide (0 ≤ g (1808 + 65 * k))) = (D k && decide (0 ≤ g (1808 + 65 * k)))) : agP g s E := by
  have hf : ∀ k, k < 16 → fal g E k = fal g D k := fun k hk => by
    unfold fal
    rw [e k hk]
  obtain ⟨h1, h2, h3, h4, h5, h6, h7⟩ := h
  refine ⟨h1, by rw [cnt_congr hf]; exact h2, h3, h4, fun k hk => by rw [hf k hk]; exact h5 k hk, fun k hk => by rw [e k hk]; exact h6 k hk, fun q a b => ?_⟩
  have hx : (∃ k, k < 16 ∧ fal g E k = true ∧ g q = g (1808 + 65 * k)) ↔ (∃ k, k < 16 ∧ fal g D k = true ∧ g q = g (1808 + 65 * k)) :=
    ⟨fun ⟨k, hk, x, y⟩ => ⟨k, hk, by rw [← hf k hk]; exact x, y⟩, fun ⟨k, hk, x, y⟩ => ⟨k, hk, by rw [hf k hk]; exact x, y⟩⟩
  rw [hx]
  exact h7 q a b
theorem agP_step {g s : Nat → Int32} {D : Nat → Bool} (h : agP g s D) {k : Nat} (hk : k < 16) (hD : D k = false) : agP g (agk s k) (unK D k) := by
  have hfk : fal g D k = false := by
    unfold fal
    rw [hD]
    rfl
  have e0 : s (1808 + 65 * k) = g (1808 + 65 * k) := by rw [h.2.2.2.2.1 k hk, hfk, if_neg (by decide)]
  have e3 : s (1808 + 65 * k + 3) = g (1808 + 65 * k + 3) := by rw [h.2.2.2.2.2.1 k hk, hD, if_neg (by simp)]
  unfold agk
  rw [e0, e3]
  by_cases h0 : 0 ≤ g (1808 + 65 * k)
  · rw [if_pos h0]
    have hlk : (unK D k k && decide (0 ≤ g (1808 + 65 * k))) = true := by rw [unK_k, decide_eq_true h0]; rfl
    by_cases ha : g (1808 + 65 * k + 3) + nI 1 = nI 3
    · rw [if_pos ha]
      have hf1 : fal g (unK D k) k = true := by
        unfold fal
        rw [hlk, decide_eq_true ha]
        rfl
      have hfn : ∀ j, j ≠ k → fal g (unK D k) j = fal g D j := fun j hj => by
        unfold fal
        rw [unK_ne D hj]
      have hcn : cnt (fal g (unK D k)) 16 = cnt (fal g D) 16 + 1 := by
        rw [← cnt_del hf1 hk]
        congr 1
        refine cnt_congr (fun j hj => ?_)
        by_cases z : j = k
        · subst z
          rw [hf1, hfk]
          simp
        · rw [hfn j z]
          have : (j == k) = false := by simpa using z
          rw [this]
          simp
      obtain ⟨h1, h2, h3, h4, h5, h6, h7⟩ := h
      have hu : ∀ q, q ≠ 1808 + 65 * k + 3 → upd s (1808 + 65 * k + 3) (g (1808 + 65 * k + 3) + nI 1) q = s q := fun q hq => up_ne _ _ hq
      refine ⟨fun q a b => ?_, ?_, fun q a b => ?_, fun j hj r a b c => ?_, fun j hj => ?_, fun j hj => ?_, fun q a b => ?_⟩
      · rw [up_ne _ _ b, gone_out (by omega) (by omega), hu _ (by omega)]
        exact h1 q a b
      · rw [up_eq, h2, hcn, ← nI_addN, Int32.add_assoc]
      · rw [up_ne _ _ (by omega), gone_out (by omega) (by omega), hu _ (by omega)]
        exact h3 q a b
      · rw [up_ne _ _ (by omega), gone_out (by omega) (by omega), hu _ (by omega)]
        exact h4 j hj r a b c
      · rw [up_ne _ _ (by omega)]
        by_cases z : j = k
        · subst z
          rw [gone_k, hf1, if_pos rfl]
        · rw [gone_out (by omega) (by omega), hu _ (by omega), hfn j z]
          exact h5 j hj
      · rw [up_ne _ _ (by omega), gone_out (by omega) (by omega)]
        by_cases z : j = k
        · subst z
          rw [up_eq, hlk, if_pos rfl]
        · rw [hu _ (by omega), unK_ne D z]
          exact h6 j hj
      · rw [up_ne _ _ (by omega), gone_v ⟨a, b⟩, hu q (by omega), hu (1808 + 65 * k) (by omega), e0]
        have hq := h7 q a b
        by_cases w1 : ∃ j, j < 16 ∧ fal g D j = true ∧ g q = g (1808 + 65 * j)
        · have hs := hq.1 w1
          refine ⟨fun _ => ?_, fun z => ?_⟩
          · rw [hs, ite_self]
          · obtain ⟨j, hj, x, y⟩ := w1
            have hjk : j ≠ k := fun z => by rw [z, hfk] at x; cases x
            exact absurd ⟨j, hj, by rw [hfn j hjk]; exact x, y⟩ z
        · have hs := hq.2 w1
          rw [hs]
          refine ⟨fun ⟨j, hj, x, y⟩ => ?_, fun z => ?_⟩
          · by_cases w2 : j = k
            · rw [w2] at y
              rw [if_pos y]
            · exact absurd ⟨j, hj, by rw [← hfn j w2]; exact x, y⟩ w1
          · rw [if_neg (fun y => z ⟨k, hk, hf1, y⟩)]
    · rw [if_neg ha]
      have hfn : ∀ j, fal g (unK D k) j = fal g D j := fun j => by
        by_cases z : j = k
        · subst z
          rw [hfk]
          unfold fal
          rw [decide_eq_false ha]
          simp
        · unfold fal
          rw [unK_ne D z]
      obtain ⟨h1, h2, h3, h4, h5, h6, h7⟩ := h
      have hu : ∀ q, q ≠ 1808 + 65 * k + 3 → upd s (1808 + 65 * k + 3) (g (1808 + 65 * k + 3) + nI 1) q = s q := fun q hq => up_ne _ _ hq
      refine ⟨fun q a b => ?_, ?_, fun q a b => ?_, fun j hj r a b c => ?_, fun j hj => ?_, fun j hj => ?_, fun q a b => ?_⟩
      · rw [hu _ (by omega)]; exact h1 q a b
      · rw [hu _ (by omega), cnt_congr (fun j _ => hfn j)]; exact h2
      · rw [hu _ (by omega)]; exact h3 q a b
      · rw [hu _ (by omega)]; exact h4 j hj r a b c
      · rw [hu _ (by omega), hfn j]; exact h5 j hj
      · by_cases z : j = k
        · subst z
          rw [up_eq, hlk, if_pos rfl]
        · rw [hu _ (by omega), unK_ne D z]
          exact h6 j hj
      · rw [hu _ (by omega)]
        have hx : (∃ j, j < 16 ∧ fal g (unK D k) j = true ∧ g q = g (1808 + 65 * j)) ↔ (∃ j, j < 16 ∧ fal g D j = true ∧ g q = g (1808 + 65 * j)) :=
          ⟨fun ⟨j, hj, x, y⟩ => ⟨j, hj, by rw [← hfn j]; exact x, y⟩, fun ⟨j, hj, x, y⟩ => ⟨j, hj, by rw [hfn j]; exact x, y⟩⟩
        rw [hx]
        exact h7 q a b
  · rw [if_neg h0]
    refine agP_congrD h (fun j hj => ?_)
    by_cases z : j = k
    · subst z
      rw [decide_eq_false h0]
      simp
    · rw [unK_ne D z]
theorem agS_P (g : Nat → Int32) : ∀ i, i ≤ 16 → agP g (agS g i) (fun j => decide (j < i))
  | 0, _ => agP_0 g (fun k _ => by simp)
  | i + 1, hi => by
    have h := agP_step (agS_P g i (by omega)) (k := i) (by omega) (by simp)
    refine agP_congrD (s := agS g (i + 1)) h (fun j hj => ?_)
    congr 1
    by_cases z : j = i
    · subst z
      rw [unK_k]
      simp
    · rw [unK_ne _ z]
      rw [decide_eq_decide]
      omega
/-- two ways to the same week -/
theorem agP_eq {g s t : Nat → Int32} {D E : Nat → Bool} (h : agP g s D) (h2 : agP g t E) (e : ∀ k, k < 16 → (E k && decide (0 ≤ g (1808 + 65 * k))) = (D k && decide (0 ≤ g (1808 + 65 * k)))) : ∀ q, q < 2848 → s q = t q := by
  have h2 := agP_congrD h2 (fun k hk => (e k hk).symm)
  intro q hq
  rcases Nat.lt_or_ge q 32 with a | a
  · by_cases z : q = 20
    · rw [z, h.2.1, h2.2.1]
    · rw [h.1 q a z, h2.1 q a z]
  · rcases Nat.lt_or_ge q 272 with b | b
    · by_cases w1 : ∃ k, k < 16 ∧ fal g D k = true ∧ g q = g (1808 + 65 * k)
      · rw [(h.2.2.2.2.2.2 q a b).1 w1, (h2.2.2.2.2.2.2 q a b).1 w1]
      · rw [(h.2.2.2.2.2.2 q a b).2 w1, (h2.2.2.2.2.2.2 q a b).2 w1]
    · rcases Nat.lt_or_ge q 1808 with c | c
      · rw [h.2.2.1 q b c, h2.2.2.1 q b c]
      · obtain ⟨k, r, hk, hr, rfl⟩ : ∃ k r, k < 16 ∧ r < 65 ∧ q = 1808 + 65 * k + r := ⟨(q - 1808) / 65, (q - 1808) % 65, by omega, by omega, by omega⟩
        by_cases z : r = 0
        · subst z
          rw [Nat.add_zero, h.2.2.2.2.1 k hk, h2.2.2.2.2.1 k hk]
        · by_cases y : r = 3
          · subst y
            rw [h.2.2.2.2.2.1 k hk, h2.2.2.2.2.2.1 k hk]
          · rw [h.2.2.2.1 k hk r hr z y, h2.2.2.2.1 k hk r hr z y]
