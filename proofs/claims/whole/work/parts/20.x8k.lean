/-- what the numbers of a state of the reference hold -/
def rwk (σ : Nat → Int32) (k : Nat) : Prop := ub (σ (1808 + 65 * k)) (nt (σ 18)) ∧ ub (σ (1808 + 65 * k + 1)) 24 ∧ ub (σ (1808 + 65 * k + 2)) 10 ∧ ub (σ (1808 + 65 * k + 3)) 3 ∧ ub (σ (1808 + 65 * k + 4)) 61 ∧ okT (sft σ (1808 + 65 * k + 5)) (nt (σ (1808 + 65 * k + 4)))
def WS (σ : Nat → Int32) : Prop :=
  (∀ a, a < 8 → ub (σ a) 4) ∧ (∀ r, r < 4 → ub (σ (8 + r)) 8) ∧ (∀ r, r < 4 → ub (σ (12 + r)) 16 ∧ 1 ≤ nt (σ (12 + r))) ∧ (ub (σ 16) 10 ∧ 1 ≤ nt (σ 16)) ∧ ub (σ 18) 201 ∧
  (∀ p, p < 24 → ub (σ (272 + 64 * p)) 61 ∧ (nt (σ (272 + 64 * p)) = 0 ∨ okT (sft σ (272 + 64 * p + 4)) (nt (σ (272 + 64 * p))))) ∧
  ∀ k, k < 16 → σ (1808 + 65 * k) = -1 ∨ rwk σ k
theorem rcS_0 {σ : Nat → Int32} {ns q : Nat} (h : q < 2848) : rcS σ ns q = σ q := by
  have h3 : ∀ j, rc3 σ j q = σ q := by
    intro j
    induction j with
    | zero => rfl
    | succ j ih =>
      show cpS (rc3 σ j) (j + 2) (j + 1) 2848 q = σ q
      unfold cpS
      rw [if_neg (by omega)]
      exact ih
  unfold rcS cpS
  rw [if_neg (by unfold rcn; split <;> omega)]
  split
  · exact h3 3
  · rfl
theorem rcS_sft {σ : Nat → Int32} {ns a k : Nat} (h : a + k < 2848) : sft (rcS σ ns) a k = sft σ a k := rcS_0 h
theorem okc_congr {f g : Nat → Int32} {k : Nat} (h : ∀ j, j ≤ k → f j = g j) : okc f k = okc g k := by
  unfold okc
  have h1 : isw f k = isw g k := by
    cases k with
    | zero => rfl
    | succ k => simp only [isw]; rw [h k (by omega)]
  rw [h k (Nat.le_refl _), h1]
  simp only [bl]
  rw [h k (Nat.le_refl _)]
theorem okT_congr {f g : Nat → Int32} {n : Nat} (h : ∀ j, j < n → f j = g j) (ho : okT f n) : okT g n := by
  refine ⟨ho.1, fun k hk => ?_, ?_⟩
  · rw [← okc_congr (fun j hj => h j (by omega))]
    exact ho.2.1 k hk
  · have h1 : isw f n = isw g n := by
      cases n with
      | zero => rfl
      | succ n => simp only [isw]; rw [h n (by omega)]
    rw [← h1]
    exact ho.2.2
theorem WS.congr {σ τ : Nat → Int32} (h : WS σ) (e : ∀ q, q < 2848 → τ q = σ q) : WS τ := by
  obtain ⟨h1, h2, h3, h4, h5, h6, h7⟩ := h
  refine ⟨fun a ha => ?_, fun r hr => ?_, fun r hr => ?_, ?_, ?_, fun p hp => ?_, fun k hk => ?_⟩
  · rw [e a (by omega)]; exact h1 a ha
  · rw [e _ (by omega)]; exact h2 r hr
  · rw [e _ (by omega)]; exact h3 r hr
  · rw [e _ (by omega)]; exact h4
  · rw [e _ (by omega)]; exact h5
  · rw [e _ (by omega)]
    refine ⟨(h6 p hp).1, (h6 p hp).2.imp id (okT_congr (fun j hj => ?_))⟩
    have := (h6 p hp).1.2
    exact (e _ (by omega)).symm
  · rw [e _ (by omega)]
    refine (h7 k hk).imp id (fun ⟨a1, a2, a3, a4, a5, a6⟩ => ?_)
    unfold rwk
    rw [e (1808 + 65 * k) (by omega), e 18 (by omega), e (1808 + 65 * k + 1) (by omega), e (1808 + 65 * k + 2) (by omega), e (1808 + 65 * k + 3) (by omega), e (1808 + 65 * k + 4) (by omega)]
    exact ⟨a1, a2, a3, a4, a5, okT_congr (fun j hj => by have := a5.2; exact (e _ (by omega)).symm) a6⟩
theorem WS.rc {σ : Nat → Int32} {ns : Nat} (h : WS σ) : WS (rcS σ ns) := h.congr (fun q hq => rcS_0 hq)
/-- an answer, and the reference's states behind it -/
abbrev An : Type := Int32 × Nat × (Nat → Int32)
def AnQ (w : Wd) (o tn : Nat) (kp : Int32) (tx cm : Nat → Int32) (A : An) : Option Value → Wd → Prop := fun r' w' => r' = some (.int A.1) ∧ MW w' o A.2.1 tn kp A.2.2 tx cm ∧ frO o w w'
/-- works of a room a whose limit falls -/
def slS (σ : Nat → Int32) (a lim : Nat) : Nat → Nat → Int32
  | 0 => σ
  | i + 1 => if σ i = nI a then caS (slS σ a lim i) i lim 3 else slS σ a lim i
def slN (σ : Nat → Int32) (a lim : Nat) : Nat → Nat
  | 0 => 0
  | i + 1 => if σ i = nI a then slN σ a lim i + caN (slS σ a lim i) i lim 3 else slN σ a lim i
theorem slS_out {σ : Nat → Int32} {a lim q : Nat} (h3 : q ≠ 21) : ∀ i, (q < 272 ∨ 272 + 192 * i ≤ q) → slS σ a lim i q = σ q
  | 0, _ => rfl
  | i + 1, h => by
    have h1 := slS_out (σ := σ) (a := a) (lim := lim) h3 i (by omega)
    simp only [slS]
    split
    · rw [caS_out h3 3 (fun b hb => ⟨by omega, by omega⟩)]
      exact h1
    · exact h1
def setLimitR (σ : Nat → Int32) (ns : Nat) (x y : Int32) : An := if inB x 3 = true then (if (nI 1 ≤ y ∧ y ≤ nI 15) then (if σ (12 + nt x) = y then (-5, ns, σ) else (nI (slN (upd (rcS σ ns) (12 + nt x) y) (nt x) (nt y) 8), rcn ns, slS (upd (rcS σ ns) (12 + nt x) y) (nt x) (nt y) 8)) else (-2, ns, σ)) else (-1, ns, σ)
def bitsI (x : Int32) : Int32 := (x &&& nI 1) + ((x >>> (nI 1 &&& 31)) &&& nI 1) + ((x >>> (nI 2 &&& 31)) &&& nI 1)
def askR (σ : Nat → Int32) (ns : Nat) (x y : Int32) (t : Bool) : An := if (inB x 3 && inB y 2) = true then (if askB σ (nt x) (nt y) = t then (-5, ns, σ) else (bitsI (σ (8 + nt x) ^^^ (nI 1 <<< (nI (nt y) &&& 31))), rcn ns, upd (rcS σ ns) (8 + nt x) (σ (8 + nt x) ^^^ (nI 1 <<< (nI (nt y) &&& 31))))) else (-1, ns, σ)
theorem and1 (x : Int32) : x &&& nI 1 = nI 0 ∨ x &&& nI 1 = nI 1 := by
  have h : (x &&& nI 1).toBitVec.toNat = x.toBitVec.toNat % 2 := by
    show (x.toBitVec &&& (nI 1).toBitVec).toNat = _
    rw [BitVec.toNat_and]
    have e : (nI 1).toBitVec.toNat = 1 := by decide
    rw [e]
    simp
  rcases Nat.lt_or_ge (x.toBitVec.toNat % 2) 1 with e | e
  · left
    apply Int32.toBitVec_inj.mp
    apply BitVec.eq_of_toNat_eq
    rw [h, show x.toBitVec.toNat % 2 = 0 by omega]
    decide
  · right
    apply Int32.toBitVec_inj.mp
    apply BitVec.eq_of_toNat_eq
    rw [h, show x.toBitVec.toNat % 2 = 1 by omega]
    decide

def setNeededR (σ : Nat → Int32) (ns : Nat) (y : Int32) : An := if (nI 1 ≤ y ∧ y ≤ nI 9) then (if σ 16 = y then (-5, ns, σ) else (σ 16, rcn ns, upd (rcS σ ns) 16 y)) else (-2, ns, σ)
set_option maxHeartbeats 4000000 in
set_option maxRecDepth 100000 in
theorem c_setNeeded {w : Wd} {o ns tn : Nat} {kp : Int32} {σ tx cm : Nat → Int32} (hM : MW w o ns tn kp σ tx cm) (hns : ns ≤ 4) (hW : WS σ) (y : Int32) : Wr mX8_setNeeded 2 [.ref o, .int y] w (AnQ w o tn kp tx cm (setNeededR σ ns y)) := by
  intro sz
  refine Ev.ofV [some (.ref o), some (.int y), none] (by decide) (Nat.le_of_ble_eq_true rfl) rfl rfl rfl ?_
  refine v_iload_n dX8_setNeeded_0 rfl ?_
  refine v_iconst (v := nI 1) dX8_setNeeded_1 (by decide) ?_
  refine v_bipush (v := nI 9) dX8_setNeeded_2 (by decide) ?_
  refine u_rS3 oX8_in dX8_setNeeded_4 ml_X8_59 (c_inb y 1 9) (by decide) (Nat.le_of_ble_eq_true rfl) (Nat.le_refl _) (Nat.le_refl _) ?_
  refine v_if_neB (tgt := 13) dX8_setNeeded_7 (by decide) (fun b7 => ?_) (fun b7 => ?_)
  ·
    have g1 : (nI 1 ≤ y ∧ y ≤ nI 9) := by simpa using b7
    refine v_aload_n dX8_setNeeded_13 rfl ?_
    refine v_get 0 dX8_setNeeded_14 FTX8 (by decide) rfl fl_X8_7 hM.1 rfl ?_
    refine v_bipush (v := nI 16) dX8_setNeeded_17 (by decide) ?_
    refine v_iald _ dX8_setNeeded_19 hM.2.1 rfl (by omega) (by decide) ?_
    refine v_iload_n dX8_setNeeded_20 rfl ?_
    refine v_icmp_ne (tgt := 27) dX8_setNeeded_21 (by decide) (fun b21 => ?_) (fun b21 => ?_)
    ·
      refine v_aload_n dX8_setNeeded_27 rfl ?_
      refine v_wV0 oX8_records dX8_setNeeded_28 ml_X8_63 (c_records hM hns) hM.1 (by decide) (Nat.le_of_ble_eq_true rfl) (Nat.le_refl _) (Nat.le_refl _) (fun r' w1 hq => ?_)
      obtain ⟨rfl, h1, f1⟩ := hq
      obtain ⟨σ1, es⟩ : ∃ s, s = rcS σ ns := ⟨_, rfl⟩
      rw [← es] at h1
      refine v_eqw h1.self ?_
      refine v_aload_n dX8_setNeeded_31 rfl ?_
      refine v_get 0 dX8_setNeeded_32 FTX8 (by decide) rfl fl_X8_7 (h1.st _).1 rfl ?_
      refine v_bipush (v := nI 16) dX8_setNeeded_35 (by decide) ?_
      refine v_ialdE _ dX8_setNeeded_37 (h1.st _).2.1 rfl (by omega) (by decide) (show σ1 16 = σ 16 from by rw [es]; exact rcS_0 (by omega)) ?_
      refine v_istore_n dX8_setNeeded_38 (by decide) rfl ?_
      refine v_aload_n dX8_setNeeded_39 rfl ?_
      refine v_get 0 dX8_setNeeded_40 FTX8 (by decide) rfl fl_X8_7 (h1.st _).1 rfl ?_
      refine v_bipush (v := nI 16) dX8_setNeeded_43 (by decide) ?_
      refine v_iload_n dX8_setNeeded_45 rfl ?_
      refine v_iast _ dX8_setNeeded_46 (h1.st _).2.1 rfl (by omega) (by decide) ?_
      refine v_eqw (wu_wu _ _ _ _).symm ?_
      refine v_iload_n dX8_setNeeded_47 rfl ?_
      refine v_iret dX8_setNeeded_48 rfl (Nat.le_refl _) (Nat.le_refl _) ?_
      have e : setNeededR σ ns y = (σ 16, rcn ns, upd (rcS σ ns) 16 y) := by
        unfold setNeededR
        rw [if_pos g1, if_neg b21]
      rw [e, ← es]
      exact ⟨rfl, rfl, h1.st _, f1.wu _ (by omega) (by omega)⟩
    ·
      refine v_bipush (v := -5) dX8_setNeeded_24 (by decide) ?_
      refine v_iret dX8_setNeeded_26 rfl (Nat.le_refl _) (Nat.le_refl _) ?_
      have e : setNeededR σ ns y = (-5, ns, σ) := by
        unfold setNeededR
        rw [if_pos g1, if_pos b21]
      rw [e]
      exact ⟨rfl, rfl, hM, frO.rf o w⟩
  ·
    refine v_bipush (v := -2) dX8_setNeeded_10 (by decide) ?_
    refine v_iret dX8_setNeeded_12 rfl (Nat.le_refl _) (Nat.le_refl _) ?_
    have e : setNeededR σ ns y = (-2, ns, σ) := by
      unfold setNeededR
      rw [if_neg (by simpa using b7)]
    rw [e]
    exact ⟨rfl, rfl, hM, frO.rf o w⟩
set_option maxHeartbeats 4000000 in
set_option maxRecDepth 100000 in
theorem c_setLimit0 {w : Wd} {o ns tn : Nat} {kp : Int32} {σ tx cm : Nat → Int32} (hM : MW w o ns tn kp σ tx cm) (x y : Int32) (h : inB x 3 = false) : Wr mX8_setLimit 5 [.ref o, .int x, .int y] w (AnQ w o tn kp tx cm (setLimitR σ ns x y)) := by
  intro sz
  refine Ev.ofV [some (.ref o), some (.int x), some (.int y), none, none] (by decide) (Nat.le_of_ble_eq_true rfl) rfl rfl rfl ?_
  refine v_iload_n dX8_setLimit_0 rfl ?_
  refine v_iconst (v := nI 0) dX8_setLimit_1 (by decide) ?_
  refine v_iconst (v := nI 3) dX8_setLimit_2 (by decide) ?_
  refine u_rS3 oX8_in dX8_setLimit_3 ml_X8_59 (c_inB x 3) (by decide) (Nat.le_of_ble_eq_true rfl) (Nat.le_refl _) (Nat.le_refl _) ?_
  refine v_if_neB (tgt := 11) dX8_setLimit_6 (by decide) (fun b6 => ?_) (fun b6 => ?_)
  ·
    exact absurd b6 (by rw [h]; decide)
  ·
    refine v_iconst (v := -1) dX8_setLimit_9 (by decide) ?_
    refine v_iret dX8_setLimit_10 rfl (Nat.le_refl _) (Nat.le_refl _) ?_
    have e : setLimitR σ ns x y = (-1, ns, σ) := by
      unfold setLimitR
      rw [if_neg (by rw [h]; decide)]
    rw [e]
    exact ⟨rfl, rfl, hM, frO.rf o w⟩
theorem lim_ub {y : Int32} (g : nI 1 ≤ y ∧ y ≤ nI 15) : ub y 16 ∧ 1 ≤ nt y := by
  have h0 : inB y 15 = true := by
    simp only [inB, decide_eq_true_eq]
    exact ⟨Int32.le_trans (by decide) g.1, g.2⟩
  have h1 := inB_ub (by omega) h0
  refine ⟨h1, ?_⟩
  have h2 := g.1
  rw [h1.1, nI_leN (by omega) (by have := h1.2; omega)] at h2
  exact h2
theorem slS_at {σ : Nat → Int32} {a i lim : Nat} {y : Int32} (ha : a < 4) : slS (upd σ (12 + a) y) a lim i (12 + a) = y := by
  rw [slS_out (by omega) i (by omega), up_eq]
/-- the labels of a work of the room whose limit falls -/
theorem c_slC {w1 : Wd} {o ns tn : Nat} {kp : Int32} {σ1 tx cm : Nat → Int32} (h1 : MW w1 o ns tn kp σ1 tx cm) {a : Nat} {y : Int32} (ha : a < 4) (hy : ub y 16 ∧ 1 ≤ nt y) (hW1 : WS σ1) (i : Nat) (hi : i < 8) (q : upd σ1 (12 + a) y i = nI a) : Wr mX8_cutsAll 3 [.ref o, .int (nI i)] (wu w1 (o + 1) (ia 1 17088 (slS (upd σ1 (12 + a) y) a (nt y) i))) (fun r' w' => r' = some (.int (nI (caN (slS (upd σ1 (12 + a) y) a (nt y) i) i (nt y) 3))) ∧ w' = wu w1 (o + 1) (ia 1 17088 (caS (slS (upd σ1 (12 + a) y) a (nt y) i) i (nt y) 3))) := by
  have e1 : slS (upd σ1 (12 + a) y) a (nt y) i i = nI a := by rw [slS_out (by omega) i (by omega)]; exact q
  have e2 : slS (upd σ1 (12 + a) y) a (nt y) i (12 + a) = y := slS_at ha
  have c := c_cutsAll0 (h1.st (slS (upd σ1 (12 + a) y) a (nt y) i)) i (nt y) hi (by rw [e1]; exact ub_nI ha (by omega)) (by rw [e1, nt_nI (by omega), e2]; exact hy) (by rw [e1, nt_nI (by omega), e2]) (fun b hb => by
    rw [slS_out (by omega) i (by omega), up_ne _ _ (by omega)]
    exact (hW1.2.2.2.2.2.1 (3 * i + b) (by omega)).1)
  simp only [wu_wu] at c
  exact c
set_option maxHeartbeats 4000000 in
set_option maxRecDepth 100000 in
theorem c_setLimitN {w : Wd} {o ns tn : Nat} {kp : Int32} {σ tx cm : Nat → Int32} (hM : MW w o ns tn kp σ tx cm) (hns : ns ≤ 4) (hW : WS σ) (a : Nat) (y : Int32) (ha : a < 4) : Wr mX8_setLimit 5 [.ref o, .int (nI a), .int y] w (AnQ w o tn kp tx cm (setLimitR σ ns (nI a) y)) := by
  intro sz
  refine Ev.ofV [some (.ref o), some (.int (nI a)), some (.int y), none, none] (by decide) (Nat.le_of_ble_eq_true rfl) rfl rfl rfl ?_
  have hga : inB (nI a) 3 = true := by rw [inB_nI (by omega) (by omega)]; simp; omega
  refine v_iload_n dX8_setLimit_0 rfl ?_
  refine v_iconst (v := nI 0) dX8_setLimit_1 (by decide) ?_
  refine v_iconst (v := nI 3) dX8_setLimit_2 (by decide) ?_
  refine u_rS3 oX8_in dX8_setLimit_3 ml_X8_59 (c_inB (nI a) 3) (by decide) (Nat.le_of_ble_eq_true rfl) (Nat.le_refl _) (Nat.le_refl _) ?_
  refine v_if_neB (tgt := 11) dX8_setLimit_6 (by decide) (fun b6 => ?_) (fun b6 => ?_)
  ·
    refine v_iload_n dX8_setLimit_11 rfl ?_
    refine v_iconst (v := nI 1) dX8_setLimit_12 (by decide) ?_
    refine v_bipush (v := nI 15) dX8_setLimit_13 (by decide) ?_
    refine u_rS3 oX8_in dX8_setLimit_15 ml_X8_59 (c_inb y 1 15) (by decide) (Nat.le_of_ble_eq_true rfl) (Nat.le_refl _) (Nat.le_refl _) ?_
    refine v_if_neB (tgt := 24) dX8_setLimit_18 (by decide) (fun b18 => ?_) (fun b18 => ?_)
    ·
      have g1 : (nI 1 ≤ y ∧ y ≤ nI 15) := by simpa using b18
      have hy := lim_ub g1
      refine v_aload_n dX8_setLimit_24 rfl ?_
      refine v_get 0 dX8_setLimit_25 FTX8 (by decide) rfl fl_X8_7 hM.1 rfl ?_
      refine v_bipush (v := nI 12) dX8_setLimit_28 (by decide) ?_
      refine v_iload_n dX8_setLimit_30 rfl ?_
      refine v_iaddN dX8_setLimit_31 ?_
      refine v_iald _ dX8_setLimit_32 hM.2.1 rfl (by omega) (by decide) ?_
      refine v_iload_n dX8_setLimit_33 rfl ?_
      refine v_icmp_ne (tgt := 40) dX8_setLimit_34 (by decide) (fun b34 => ?_) (fun b34 => ?_)
      ·
        refine v_aload_n dX8_setLimit_40 rfl ?_
        refine v_wV0 oX8_records dX8_setLimit_41 ml_X8_63 (c_records hM hns) hM.1 (by decide) (Nat.le_of_ble_eq_true rfl) (Nat.le_refl _) (Nat.le_refl _) (fun r' w1 hq => ?_)
        obtain ⟨rfl, h1, f1⟩ := hq
        obtain ⟨σ1, es⟩ : ∃ s, s = rcS σ ns := ⟨_, rfl⟩
        rw [← es] at h1
        refine v_eqw h1.self ?_
        refine v_aload_n dX8_setLimit_44 rfl ?_
        refine v_get 0 dX8_setLimit_45 FTX8 (by decide) rfl fl_X8_7 (h1.st _).1 rfl ?_
        refine v_bipush (v := nI 12) dX8_setLimit_48 (by decide) ?_
        refine v_iload_n dX8_setLimit_50 rfl ?_
        refine v_iaddN dX8_setLimit_51 ?_
        refine v_iload_n dX8_setLimit_52 rfl ?_
        refine v_iast _ dX8_setLimit_53 (h1.st _).2.1 rfl (by omega) (by decide) ?_
        refine v_eqw (wu_wu _ _ _ _).symm ?_
        refine v_iconst (v := nI 0) dX8_setLimit_54 (by decide) ?_
        refine v_istore_n dX8_setLimit_55 (by decide) rfl ?_
        refine v_iconst (v := nI 0) dX8_setLimit_56 (by decide) ?_
        refine v_istore dX8_setLimit_57 (by decide) rfl ?_
        have LP59 : ∀ i, i ≤ 8 → V mX8_setLimit 5 0 0 (fun r' w' zz => zz = sz ∧ AnQ w o tn kp tx cm (setLimitR σ ns (nI a) y) r' w') (wu w1 (o + 1) (ia 1 17088 (slS (upd σ1 (12 + a) y) a (nt y) i))) (sz) (0) (0) [some (.ref o), some (.int (nI a)), some (.int y), some (.int (nI (slN (upd σ1 (12 + a) y) a (nt y) i))), some (.int (nI i))] [] 59 := by
          refine dn (fun i hi ih => ?_)
          refine v_iload dX8_setLimit_59 rfl ?_
          refine v_bipush (v := nI 8) dX8_setLimit_61 (by decide) ?_
          refine v_icmp_geN (tgt := 96) dX8_setLimit_63 (by decide) (by omega) (by omega) (fun b63 => ?_) (fun b63 => ?_)
          ·
            have e8 : i = 8 := by omega
            subst e8
            refine v_iload_n dX8_setLimit_96 rfl ?_
            refine v_iret dX8_setLimit_97 rfl (Nat.le_refl _) (Nat.le_refl _) ?_
            have e : setLimitR σ ns (nI a) y = (nI (slN (upd (rcS σ ns) (12 + a) y) a (nt y) 8), rcn ns, slS (upd (rcS σ ns) (12 + a) y) a (nt y) 8) := by
              unfold setLimitR
              rw [if_pos hga, nt_nI (by omega), if_pos g1, if_neg b34]
            rw [e, ← es]
            exact ⟨rfl, rfl, h1.st _, f1.wu _ (by omega) (by omega)⟩
          ·
            have hW1 : WS σ1 := by rw [es]; exact hW.rc
            refine v_iload_n dX8_setLimit_66 rfl ?_
            refine v_aload_n dX8_setLimit_67 rfl ?_
            refine v_get 0 dX8_setLimit_68 FTX8 (by decide) rfl fl_X8_7 (h1.st _).1 rfl ?_
            refine v_iload dX8_setLimit_71 rfl ?_
            refine v_ialdE _ dX8_setLimit_73 (h1.st _).2.1 rfl (by omega) (by decide) (slS_out (by omega) i (by omega)) ?_
            refine v_iload_n dX8_setLimit_74 rfl ?_
            refine v_icmp_ne (tgt := 87) dX8_setLimit_75 (by decide) (fun b75 => ?_) (fun b75 => ?_)
            ·
              have q75 : ¬ (upd σ1 (12 + a) y) i = nI a := b75
              have qS : slS (upd σ1 (12 + a) y) a (nt y) (i + 1) = slS (upd σ1 (12 + a) y) a (nt y) i := by simp only [slS]; rw [if_neg q75]
              have qN : slN (upd σ1 (12 + a) y) a (nt y) (i + 1) = slN (upd σ1 (12 + a) y) a (nt y) i := by simp only [slN]; rw [if_neg q75]
              refine v_iconst (v := nI 0) dX8_setLimit_87 (by decide) ?_
              refine v_iaddN dX8_setLimit_88 ?_
              refine v_istore_n dX8_setLimit_89 (by decide) rfl ?_
              refine v_iincN dX8_setLimit_90 (by decide) rfl rfl rfl ?_
              refine v_goto (tgt := 59) dX8_setLimit_93 (by decide) ?_
              refine v_sg qS ?_
              refine v_eqL ?_ (ih (by omega))
              rw [qN]
              rfl
            ·
              have q75 : (upd σ1 (12 + a) y) i = nI a := b75
              have qS : slS (upd σ1 (12 + a) y) a (nt y) (i + 1) = caS (slS (upd σ1 (12 + a) y) a (nt y) i) i (nt y) 3 := by simp only [slS]; rw [if_pos q75]
              have qN : slN (upd σ1 (12 + a) y) a (nt y) (i + 1) = slN (upd σ1 (12 + a) y) a (nt y) i + caN (slS (upd σ1 (12 + a) y) a (nt y) i) i (nt y) 3 := by simp only [slN]; rw [if_pos q75]
              refine v_aload_n dX8_setLimit_78 rfl ?_
              refine v_iload dX8_setLimit_79 rfl ?_
              refine u_wV1 oX8_cutsAll dX8_setLimit_81 ml_X8_66 (c_slC h1 ha hy hW1 i (by omega) q75) (h1.st _).1 (by decide) (Nat.le_of_ble_eq_true rfl) (Nat.le_refl _) (Nat.le_refl _) ?_
              refine v_goto (tgt := 88) dX8_setLimit_84 (by decide) ?_
              refine v_iaddN dX8_setLimit_88 ?_
              refine v_istore_n dX8_setLimit_89 (by decide) rfl ?_
              refine v_iincN dX8_setLimit_90 (by decide) rfl rfl rfl ?_
              refine v_goto (tgt := 59) dX8_setLimit_93 (by decide) ?_
              refine v_sg qS ?_
              refine v_eqL ?_ (ih (by omega))
              rw [qN]
              rfl
        exact LP59 0 (Nat.zero_le _)
      ·
        refine v_bipush (v := -5) dX8_setLimit_37 (by decide) ?_
        refine v_iret dX8_setLimit_39 rfl (Nat.le_refl _) (Nat.le_refl _) ?_
        have e : setLimitR σ ns (nI a) y = (-5, ns, σ) := by
          unfold setLimitR
          rw [if_pos hga, nt_nI (by omega), if_pos g1, if_pos b34]
        rw [e]
        exact ⟨rfl, rfl, hM, frO.rf o w⟩
    ·
      refine v_bipush (v := -2) dX8_setLimit_21 (by decide) ?_
      refine v_iret dX8_setLimit_23 rfl (Nat.le_refl _) (Nat.le_refl _) ?_
      have e : setLimitR σ ns (nI a) y = (-2, ns, σ) := by
        unfold setLimitR
        rw [if_pos hga, nt_nI (by omega), if_neg (by simpa using b18)]
      rw [e]
      exact ⟨rfl, rfl, hM, frO.rf o w⟩
  ·
    exact absurd hga (by rw [b6]; decide)
theorem c_setLimit {w : Wd} {o ns tn : Nat} {kp : Int32} {σ tx cm : Nat → Int32} (hM : MW w o ns tn kp σ tx cm) (hns : ns ≤ 4) (hW : WS σ) (x y : Int32) : Wr mX8_setLimit 5 [.ref o, .int x, .int y] w (AnQ w o tn kp tx cm (setLimitR σ ns x y)) := by
  by_cases h : (inB x 3) = false
  · exact c_setLimit0 hM x y h
  · have h1 : (inB x 3) = true := by
      cases e : (inB x 3)
      · exact absurd e h
      · rfl
    have hx := inB_ub (by omega) h1
    rw [hx.1]
    exact c_setLimitN hM hns hW (nt x) y hx.2
