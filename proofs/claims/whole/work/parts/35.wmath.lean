/-! ===== frames; words: an object with its two rows ===== -/
def fr (a k : Nat) (w w' : Wd) : Prop := ∀ q, (q < a ∨ a + k ≤ q) → w' q = w q
theorem fr.rf (a k : Nat) (w : Wd) : fr a k w w := fun _ _ => rfl
theorem fr.wu {a k b : Nat} {w w' : Wd} (h : fr a k w w') (x : Cl) (h1 : a ≤ b) (h2 : b < a + k) : fr a k w (wu w' b x) := fun q hq => (wu_ne w' x (by omega)).trans (h q hq)
theorem fr.tr {a k : Nat} {w w' w2 : Wd} (h : fr a k w w') (h2 : fr a k w' w2) : fr a k w w2 := fun q hq => (h2 q hq).trans (h q hq)
theorem fr.mono {a k b m : Nat} {w w' : Wd} (h : fr a k w w') (h1 : b ≤ a) (h2 : a + k ≤ b + m) : fr b m w w' := fun q hq => h q (by omega)
theorem fst_congr {p q : Nat → Bool} : ∀ {n : Nat}, (∀ k, k < n → p k = q k) → fst p n = fst q n
  | 0, _ => rfl
  | n + 1, h => by
    simp only [fst]
    rw [fst_congr (fun k hk => h k (by omega)), h n (by omega)]
theorem fst_lt {p : Nat → Bool} {n k : Nat} (hk : k < n) (h : p k = true) : fst p n < n := by
  by_cases e : fst p n < n
  · exact e
  · have := fst_no p n k (by omega)
    rw [h] at this
    cases this
theorem bl_congr {f g : Nat → Int32} {n : Nat} (e : ∀ k, k < n → g k = f k) : ∀ k, k < n → bl g k = bl f k := fun k hk => by unfold bl; rw [e k hk]
theorem nw_congr {f g : Nat → Int32} {n : Nat} (e : ∀ k, k < n → g k = f k) : nw g n = nw f n := by
  unfold nw
  rw [cnt_congr (bl_congr e)]
theorem beg_congr {f g : Nat → Int32} {n j : Nat} (e : ∀ k, k < n → g k = f k) : beg g n j = beg f n j := by
  unfold beg
  refine fst_congr (fun k hk => ?_)
  show (cnt (bl g) k == j) = (cnt (bl f) k == j)
  rw [cnt_congr (fun i hi => bl_congr e i (by omega))]
theorem enn_congr {f g : Nat → Int32} {n b : Nat} (e : ∀ k, k < n → g k = f k) : enn g n b = enn f n b := by
  unfold enn
  rw [fst_congr (fun k hk => bl_congr e (b + k) (by omega))]
theorem ltr_bl {f : Nat → Int32} {k : Nat} (h : bl f k = true) : ltr (f k) = false := by
  unfold bl at h
  have : f k = nI 32 := by simpa using h
  rw [this]
  decide
theorem okc_bl {f : Nat → Int32} {k : Nat} (h : okc f k = true) (hb : bl f k = true) : isw f k = true := by
  unfold okc at h
  rw [ltr_bl hb, hb] at h
  simpa using h
theorem okc_fits {f : Nat → Int32} {k : Nat} (h : okc f k = true) : fits (tyA 0) (.int (f k)) = true := by
  show (decide ((0 : Int32) ≤ f k) && decide (f k ≤ (65535 : Int32))) = true
  unfold okc ltr bl at h
  rw [Bool.or_eq_true, Bool.and_eq_true] at h
  rcases h with h | ⟨h, -⟩
  · have h1 : nI 97 ≤ f k ∧ f k ≤ nI 122 := by simpa using h
    have a1 := Int32.le_iff_toInt_le.mp h1.1
    have a2 := Int32.le_iff_toInt_le.mp h1.2
    have e1 : (nI 97).toInt = 97 := by decide
    have e2 : (nI 122).toInt = 122 := by decide
    rw [Bool.and_eq_true, decide_eq_true_eq, decide_eq_true_eq]
    refine ⟨Int32.le_iff_toInt_le.mpr ?_, Int32.le_iff_toInt_le.mpr ?_⟩
    · have : (0 : Int32).toInt = 0 := by decide
      omega
    · have : (65535 : Int32).toInt = 65535 := by decide
      omega
  · have h1 : f k = nI 32 := by simpa using h
    rw [h1]
    decide
theorem cnt_S {p : Nat → Bool} {k : Nat} (h : p k = true) : cnt p (k + 1) = cnt p k + 1 := by simp [cnt, h]
theorem cnt_S0 {p : Nat → Bool} {k : Nat} (h : p k = false) : cnt p (k + 1) = cnt p k := by simp [cnt, h]
/-- a text that is cut to its first words -/
theorem cut_ok {f : Nat → Int32} {n lim : Nat} (h : okT f n) (h1 : 1 ≤ lim) (h2 : lim < nw f n) :
    okT f (beg f n lim - 1) ∧ nw f (beg f n lim - 1) = lim ∧ beg f n lim ≤ n ∧ 2 ≤ beg f n lim ∧ ∀ j, j ≤ lim → beg f (beg f n lim - 1) j = beg f n j := by
  have hc := cut_beg h2
  have B := beg_spec hc
  have hp := beg_pos hc h1
  obtain ⟨e, he⟩ : ∃ e, beg f n lim = e + 1 := ⟨beg f n lim - 1, by omega⟩
  rw [he] at B ⊢
  have hb : bl f e = true := by
    cases hb : bl f e
    · have h3 := B.2.2 e (by omega)
      have := B.2.1
      rw [cnt_S0 hb] at this
      omega
    · rfl
  have hce : cnt (bl f) e + 1 = lim := by
    have := B.2.1
    rw [cnt_S hb] at this
    exact this
  have hw : isw f e = true := okc_bl (h.2.1 e (by omega)) hb
  have he0 : 0 < e := by
    rcases Nat.eq_zero_or_pos e with z | z
    · rw [z] at hw; simp [isw] at hw
    · exact z
  have e1 : e + 1 - 1 = e := by omega
  rw [e1]
  refine ⟨⟨he0, fun k hk => h.2.1 k (by omega), hw⟩, by unfold nw; rw [if_pos he0]; omega, B.1, by omega, fun j hj => ?_⟩
  by_cases ej : j = lim
  · rw [ej, he]
    refine fst_none (p := fun k => cnt (bl f) k == lim) (fun k hk => ?_)
    have := B.2.2 k hk
    have : cnt (bl f) k ≠ lim := by omega
    simpa using this
  · have C := beg_spec (f := f) (n := e) (j := j) (by omega)
    refine ((fst_eq (p := fun k => cnt (bl f) k == j) (n := n + 1) (k := beg f e j) (by omega) (by simpa using C.2.1) (fun k hk => ?_)).symm : beg f e j = beg f n j)
    have := C.2.2 k hk
    have : cnt (bl f) k ≠ j := by omega
    simpa using this
theorem okT_nw30 {f : Nat → Int32} {n : Nat} (h : n = 0 ∨ okT f n) (h60 : n ≤ 60) : nw f n ≤ 30 := by
  rcases h with rfl | h
  · simp [nw, cnt]
  · have := okT_nw h
    omega
theorem nw_0 (f : Nat → Int32) : nw f 0 = 0 := by simp [nw, cnt]
theorem nw_pos {f : Nat → Int32} {n : Nat} : 0 < nw f n ↔ 0 < n := by
  unfold nw
  constructor
  · intro h
    rcases Nat.eq_zero_or_pos n with e | e
    · subst e; simp [cnt] at h
    · exact e
  · intro h
    rw [if_pos h]
    omega
theorem enn_bl {f : Nat → Int32} {n b : Nat} (h : enn f n b < n) : bl f (enn f n b) = true := by
  unfold enn at h ⊢
  exact fst_yes (fun k => bl f (b + k)) (n - b) (by omega)
theorem enn_no {f : Nat → Int32} {n b c : Nat} (h : b + c < enn f n b) : bl f (b + c) = false := by
  unfold enn at h
  exact fst_no (fun k => bl f (b + k)) (n - b) c (by omega)
theorem enn_eq {f : Nat → Int32} {n k d : Nat} (h : k + d ≤ n) (h1 : ∀ c, c < d → bl f (k + c) = false) (h2 : k + d = n ∨ bl f (k + d) = true) : enn f n k = k + d := by
  unfold enn
  rcases h2 with h2 | h2
  · rw [fst_none (p := fun c => bl f (k + c)) (n := n - k) (fun c hc => h1 c (by omega))]
    omega
  · by_cases e : k + d = n
    · rw [fst_none (p := fun c => bl f (k + c)) (n := n - k) (fun c hc => h1 c (by omega))]
      omega
    · rw [fst_eq (p := fun c => bl f (k + c)) (n := n - k) (k := d) (by omega) h2 h1]
theorem beg_at {f : Nat → Int32} {n k : Nat} (hk : k ≤ n) (h : k = 0 ∨ bl f (k - 1) = true) : beg f n (cnt (bl f) k) = k := by
  refine fst_eq (p := fun i => cnt (bl f) i == cnt (bl f) k) (n := n + 1) (by omega) (by simp) (fun j hj => ?_)
  rcases h with h | h
  · omega
  · have h3 : cnt (bl f) k = cnt (bl f) (k - 1) + 1 := by
      obtain ⟨i, hi⟩ : ∃ i, k = i + 1 := ⟨k - 1, by omega⟩
      subst hi
      exact cnt_S h
    have h4 := cnt_mono (bl f) (show j ≤ k - 1 by omega)
    have : cnt (bl f) j ≠ cnt (bl f) k := by omega
    simpa using this
theorem beg_nbl {g : Nat → Int32} {m j : Nat} (h : okT g m) (hj : j < nw g m) : bl g (beg g m j) = false := by
  have hlt := beg_lt h hj
  cases hb : bl g (beg g m j)
  · rfl
  · have hw := okc_bl (h.2.1 _ hlt) hb
    rcases Nat.eq_zero_or_pos (beg g m j) with z | z
    · rw [z] at hw; simp [isw] at hw
    · have hp := beg_prev (nw_cnt hj) z
      obtain ⟨b, hb2⟩ : ∃ b, beg g m j = b + 1 := ⟨beg g m j - 1, by omega⟩
      rw [hb2] at hw hp
      rw [Nat.add_sub_cancel] at hp
      simp only [isw] at hw
      rw [ltr_bl hp] at hw
      cases hw
theorem hsT_T {f g : Nat → Int32} {n m i j : Nat} (hi : i < nw f n) (hj : j < nw g m) (h : same f n i g m j = true) : hsT f n g m = true := by
  have hn : 0 < n := (nw_pos (f := f)).mp (by omega)
  unfold hsT
  rw [decide_eq_true_eq]
  refine fst_lt hj ?_
  unfold whI whB
  unfold same weq at h
  rw [Bool.and_eq_true] at h
  have h1 : enn f n (beg f n i) - beg f n i = enn g m (beg g m j) - beg g m j := by simpa using h.1
  have bi := beg_spec (nw_cnt hi)
  have bj := beg_spec (nw_cnt hj)
  have ei := enn_le (f := f) bi.1
  have ej := enn_le (f := g) bj.1
  rw [decide_eq_true_eq]
  refine fst_lt (k := beg f n i) (by omega) ?_
  unfold mtc
  rw [Bool.and_eq_true, Bool.and_eq_true]
  rw [← h1]
  refine ⟨⟨?_, ?_⟩, h.2⟩
  · rcases Nat.eq_zero_or_pos (beg f n i) with z | z
    · rw [z]; rfl
    · rw [beg_prev (nw_cnt hi) z]
      simp
  · by_cases e : enn f n (beg f n i) < n
    · have := enn_bl e
      rw [show beg f n i + (enn f n (beg f n i) - beg f n i) = enn f n (beg f n i) by omega, this]
      simp
    · rw [show beg f n i + (enn f n (beg f n i) - beg f n i) = n by omega]
      simp
theorem hsT_F {f g : Nat → Int32} {n m : Nat} (hg : okT g m) (h : hsT f n g m = true) : ∃ i j, i < nw f n ∧ j < nw g m ∧ same f n i g m j = true := by
  unfold hsT at h
  rw [decide_eq_true_eq] at h
  have hw := fst_yes (whI f n g m) (nw g m) h
  obtain ⟨j, hj⟩ : ∃ j, j = fst (whI f n g m) (nw g m) := ⟨_, rfl⟩
  rw [← hj] at hw h
  unfold whI whB at hw
  rw [decide_eq_true_eq] at hw
  have hm := fst_yes (mtc f n g (beg g m j) (enn g m (beg g m j))) (n + 1 - (enn g m (beg g m j) - beg g m j)) hw
  obtain ⟨k, hk⟩ : ∃ k, k = fst (mtc f n g (beg g m j) (enn g m (beg g m j))) (n + 1 - (enn g m (beg g m j) - beg g m j)) := ⟨_, rfl⟩
  rw [← hk] at hm hw
  unfold mtc at hm
  rw [Bool.and_eq_true, Bool.and_eq_true] at hm
  obtain ⟨⟨m1, m2⟩, m3⟩ := hm
  have bj := beg_spec (nw_cnt h)
  have ej := enn_le (f := g) bj.1
  have hlt := beg_lt hg h
  have hnb := beg_nbl hg h
  have e1 : beg g m j < enn g m (beg g m j) := by
    by_cases e : beg g m j < enn g m (beg g m j)
    · exact e
    · have e2 : enn g m (beg g m j) = beg g m j := by omega
      have := enn_bl (f := g) (n := m) (b := beg g m j) (by omega)
      rw [e2, hnb] at this
      cases this
  obtain ⟨d, hd⟩ : ∃ d, d = enn g m (beg g m j) - beg g m j := ⟨_, rfl⟩
  rw [← hd] at m2 m3 hw
  have m3' := (al_iff _ _).mp m3
  have hkb : k = 0 ∨ bl f (k - 1) = true := by
    rw [Bool.or_eq_true, decide_eq_true_eq] at m1
    exact m1
  have hb := beg_at (f := f) (n := n) (k := k) (by omega) hkb
  have he : enn f n k = k + d := by
    refine enn_eq (by omega) (fun c hc => ?_) ?_
    · have h1 : (f (k + c) == g (beg g m j + c)) = true := m3' c hc
      have h2 : f (k + c) = g (beg g m j + c) := by simpa using h1
      have h3 := enn_no (f := g) (n := m) (b := beg g m j) (c := c) (by omega)
      unfold bl at h3 ⊢
      rw [h2]
      exact h3
    · rw [Bool.or_eq_true, decide_eq_true_eq] at m2
      exact m2
  refine ⟨cnt (bl f) k, j, ?_, h, ?_⟩
  · have := cnt_mono (bl f) (show k ≤ n by omega)
    unfold nw
    rw [if_pos (by omega)]
    omega
  · unfold same weq
    rw [hb, he, Bool.and_eq_true]
    refine ⟨by simp; omega, ?_⟩
    rw [show k + d - k = d by omega]
    exact m3
/-! counting through a map -/
theorem cnt_ext {p q : Nat → Bool} {n : Nat} (h : ∀ k, k < n → p k = q k) : cnt p n = cnt q n := cnt_congr h
theorem cnt_del {q : Nat → Bool} {j : Nat} (hq : q j = true) : ∀ {m : Nat}, j < m → cnt (fun k => q k && !(k == j)) m + 1 = cnt q m
  | 0, h => absurd h (Nat.not_lt_zero _)
  | m + 1, h => by
    by_cases e : j = m
    · subst e
      simp only [cnt, hq]
      have : cnt (fun k => q k && !(k == j)) j = cnt q j := cnt_congr (fun k hk => by
        have : (k == j) = false := by simp; omega
        simp [this])
      simp [this]
    · have := cnt_del hq (show j < m by omega)
      have e1 : (m == j) = false := by simp; omega
      simp only [cnt]
      simp only [e1, Bool.not_false, Bool.and_true]
      omega
theorem cnt_inj {p : Nat → Bool} {f : Nat → Nat} : ∀ {n : Nat} {q : Nat → Bool} {m : Nat}, (∀ i, i < n → p i = true → f i < m ∧ q (f i) = true) → (∀ i j, i < n → j < n → p i = true → p j = true → f i = f j → i = j) → cnt p n ≤ cnt q m
  | 0, q, m, _, _ => Nat.zero_le _
  | n + 1, q, m, h, hi => by
    cases hp : p n
    · rw [cnt_S0 hp]
      exact cnt_inj (fun i hn => h i (by omega)) (fun i j h1 h2 => hi i j (by omega) (by omega))
    · rw [cnt_S hp]
      have h0 := h n (by omega) hp
      have := cnt_inj (p := p) (f := f) (n := n) (q := fun k => q k && !(k == f n)) (m := m) (fun i hn hpi => by
        refine ⟨(h i (by omega) hpi).1, ?_⟩
        have hne : f i ≠ f n := fun e => by
          have := hi i n (by omega) (by omega) hpi hp e
          omega
        have h3 : (f i == f n) = false := by simpa using hne
        show (q (f i) && !(f i == f n)) = true
        rw [h3, (h i (by omega) hpi).2]
        rfl) (fun i j h1 h2 => hi i j (by omega) (by omega))
      have h2 := cnt_del h0.2 h0.1
      omega
theorem cnt_bij {p q : Nat → Bool} {n m : Nat} (f : Nat → Nat) (h1 : ∀ i, i < n → p i = true → f i < m ∧ q (f i) = true) (h2 : ∀ i j, i < n → j < n → p i = true → p j = true → f i = f j → i = j) (h3 : ∀ k, k < m → q k = true → ∃ i, i < n ∧ p i = true ∧ f i = k) : cnt p n = cnt q m := by
  refine Nat.le_antisymm (cnt_inj h1 h2) ?_
  have hch : ∀ k, ∃ i, (k < m → q k = true → i < n ∧ p i = true ∧ f i = k) := fun k => by
    by_cases e : k < m ∧ q k = true
    · obtain ⟨i, hi⟩ := h3 k e.1 e.2
      exact ⟨i, fun _ _ => hi⟩
    · exact ⟨0, fun a b => absurd ⟨a, b⟩ e⟩
  obtain ⟨g, hg⟩ := Classical.axiomOfChoice hch
  refine cnt_inj (f := g) (fun k hk hq => ⟨(hg k hk hq).1, (hg k hk hq).2.1⟩) (fun i j hi hj hqi hqj e => ?_)
  have a1 := (hg i hi hqi).2.2
  have a2 := (hg j hj hqj).2.2
  rw [← a1, ← a2, e]
theorem smN_congr {f g : Nat → Nat} : ∀ {n : Nat}, (∀ k, k < n → f k = g k) → smN f n = smN g n
  | 0, _ => rfl
  | n + 1, h => by
    simp only [smN]
    rw [smN_congr (fun k hk => h k (by omega)), h n (by omega)]
theorem smN_cnt (p : Nat → Bool) : ∀ n, smN (fun k => if p k = true then 1 else 0) n = cnt p n
  | 0 => rfl
  | n + 1 => by simp only [smN, cnt, smN_cnt p n]
theorem smN_add (f g : Nat → Nat) : ∀ n, smN (fun k => f k + g k) n = smN f n + smN g n
  | 0 => rfl
  | n + 1 => by
    simp only [smN, smN_add f g n]
    omega
theorem smN_0 : ∀ n, smN (fun _ => 0) n = 0
  | 0 => rfl
  | n + 1 => by simp only [smN, smN_0 n]
theorem smN_swap (F : Nat → Nat → Nat) (m : Nat) : ∀ n, smN (fun i => smN (F i) m) n = smN (fun j => smN (fun i => F i j) n) m
  | 0 => by simp only [smN, smN_0]
  | n + 1 => by
    simp only [smN]
    rw [smN_swap F m n, smN_add]
/-! ===== words in the heap ===== -/
def WO (w : Wd) (a : Nat) (f : Nat → Int32) (n : Nat) : Prop := ∃ L st : Nat → Int32, w a = some (ob 6 [.ref (a + 1), .int (nI n), .ref (a + 2), .int (nI (nw f n))]) ∧ w (a + 1) = some (ia 0 60 L) ∧ w (a + 2) = some (ia 1 31 st) ∧ n ≤ 60 ∧ (n = 0 ∨ okT f n) ∧ (∀ k, k < n → L k = f k) ∧ (0 < n → ∀ j, j ≤ nw f n → st j = nI (beg f n j))
theorem WO.fr {w w' : Wd} {a n : Nat} {f : Nat → Int32} (h : WO w a f n) (e : ∀ q, a ≤ q → q < a + 3 → w' q = w q) : WO w' a f n := by
  obtain ⟨L, st, h1, h2, h3, h4⟩ := h
  exact ⟨L, st, (e _ (by omega) (by omega)).trans h1, (e _ (by omega) (by omega)).trans h2, (e _ (by omega) (by omega)).trans h3, h4⟩
theorem okT_or {f g : Nat → Int32} {n : Nat} (h : ∀ j, j < n → f j = g j) (ho : n = 0 ∨ okT f n) : n = 0 ∨ okT g n := ho.imp id (okT_congr h)
theorem WO.congr {w : Wd} {a n : Nat} {f g : Nat → Int32} (h : WO w a f n) (e : ∀ k, k < n → g k = f k) : WO w a g n := by
  obtain ⟨L, st, h1, h2, h3, h4, h5, h6, h7⟩ := h
  refine ⟨L, st, by rw [nw_congr e]; exact h1, h2, h3, h4, okT_or (fun j hj => (e j hj).symm) h5, fun k hk => (h6 k hk).trans (e k hk).symm, fun hn j hj => ?_⟩
  rw [nw_congr e] at hj
  rw [h7 hn j hj, beg_congr e]
