/-- the first i numbers of state t are those of state f -/
def cpS (σ : Nat → Int32) (f t i : Nat) : Nat → Int32 := fun q => if 2848 * t ≤ q ∧ q < 2848 * t + i then σ (2848 * f + (q - 2848 * t)) else σ q
theorem cpS_0 (σ : Nat → Int32) (f t : Nat) : cpS σ f t 0 = σ := by
  funext q
  simp only [cpS]
  rw [if_neg (by omega)]
theorem cpS_rd {σ : Nat → Int32} {f t i k : Nat} (h : f ≠ t) (hi : i ≤ 2848) (hk : k < 2848) : cpS σ f t i (2848 * f + k) = σ (2848 * f + k) := by
  simp only [cpS]
  rw [if_neg (by omega)]
theorem cpS_S {σ : Nat → Int32} {f t i : Nat} : upd (cpS σ f t i) (2848 * t + i) (σ (2848 * f + i)) = cpS σ f t (i + 1) := by
  funext q
  simp only [upd, cpS]
  by_cases e : q = 2848 * t + i
  · subst e
    rw [if_pos rfl, if_pos (by omega)]
    congr 1
    omega
  · rw [if_neg e]
    by_cases h1 : 2848 * t ≤ q ∧ q < 2848 * t + i
    · rw [if_pos h1, if_pos (by omega)]
    · rw [if_neg h1, if_neg (by omega)]
def frO (o : Nat) (w w' : Wd) : Prop := ∀ q, (q < o ∨ o + 4 ≤ q) → w' q = w q
theorem frO.rf (o : Nat) (w : Wd) : frO o w w := fun _ _ => rfl
theorem frO.wu {o a : Nat} {w w' : Wd} (h : frO o w w') (x : Cl) (h1 : o ≤ a) (h2 : a < o + 4) : frO o w (wu w' a x) := fun q hq => (wu_ne w' x (by omega)).trans (h q hq)
theorem frO.tr {o : Nat} {w w' w2 : Wd} (h : frO o w w') (h2 : frO o w' w2) : frO o w w2 := fun q hq => (h2 q hq).trans (h q hq)
def moO (o ns tn : Nat) (kp : Int32) : Cl := ob 8 [.ref (o + 1), .int (nI ns), .int kp, .ref (o + 2), .int (nI tn), .ref (o + 3)]
theorem MW.so {w : Wd} {o ns tn : Nat} {kp : Int32} {σ tx cm : Nat → Int32} (h : MW w o ns tn kp σ tx cm) (ns' tn' : Nat) (kp' : Int32) : MW (wu w o (moO o ns' tn' kp')) o ns' tn' kp' σ tx cm :=
  ⟨wu_eq w _ _, (wu_ne w _ (by omega)).trans h.2.1, (wu_ne w _ (by omega)).trans h.2.2.1, (wu_ne w _ (by omega)).trans h.2.2.2⟩
theorem MW.tx {w : Wd} {o ns tn : Nat} {kp : Int32} {σ tx cm : Nat → Int32} (h : MW w o ns tn kp σ tx cm) (tx' : Nat → Int32) : MW (wu w (o + 2) (ia 0 60 tx')) o ns tn kp σ tx' cm :=
  ⟨(wu_ne w _ (by omega)).trans h.1, (wu_ne w _ (by omega)).trans h.2.1, wu_eq w _ _, (wu_ne w _ (by omega)).trans h.2.2.2⟩
theorem MW.cm {w : Wd} {o ns tn : Nat} {kp : Int32} {σ tx cm : Nat → Int32} (h : MW w o ns tn kp σ tx cm) (cm' : Nat → Int32) : MW (wu w (o + 3) (ia 1 961 cm')) o ns tn kp σ tx cm' :=
  ⟨(wu_ne w _ (by omega)).trans h.1, (wu_ne w _ (by omega)).trans h.2.1, (wu_ne w _ (by omega)).trans h.2.2.1, wu_eq w _ _⟩
/-- one more state recorded: the oldest is dropped when there are four -/
def rcn (ns : Nat) : Nat := if ns = 4 then 4 else ns + 1
def rc3 (σ : Nat → Int32) : Nat → Nat → Int32
  | 0 => σ
  | j + 1 => cpS (rc3 σ j) (j + 2) (j + 1) 2848
def rcS (σ : Nat → Int32) (ns : Nat) : Nat → Int32 := cpS (if ns = 4 then rc3 σ 3 else σ) 0 (rcn ns) 2848

set_option maxHeartbeats 4000000 in
set_option maxRecDepth 100000 in
theorem c_copies {w : Wd} {o ns tn : Nat} {kp : Int32} {σ tx cm : Nat → Int32} (hM : MW w o ns tn kp σ tx cm) (f t : Nat) (hf : f < 6) (ht : t < 6) (hne : f ≠ t) : Wr mX8_copies 0 [.ref o, .int (nI f), .int (nI t)] w (fun r' w' => r' = none ∧ w' = wu w (o + 1) (ia 1 17088 (cpS σ f t 2848))) := by
  intro sz
  refine Ev.ofV [some (.ref o), some (.int (nI f)), some (.int (nI t)), none] (by decide) (Nat.le_of_ble_eq_true rfl) rfl rfl rfl ?_
  refine v_eqw hM.self ?_
  refine v_iconst (v := nI 0) dX8_copies_0 (by decide) ?_
  refine v_istore_n dX8_copies_1 (by decide) rfl ?_
  have LP2 : ∀ i, i ≤ 2848 → V mX8_copies 0 0 0 (fun r' w' z => z = sz ∧ r' = none ∧ w' = wu w (o + 1) (ia 1 17088 (cpS σ f t 2848))) (wu w (o + 1) (ia 1 17088 (cpS σ f t i))) (sz) (0) (0) [some (.ref o), some (.int (nI f)), some (.int (nI t)), some (.int (nI i))] [] 2 := by
    refine dn (fun i hi ih => ?_)
    refine v_iload_n dX8_copies_2 rfl ?_
    refine v_sipush (v := nI 2848) dX8_copies_3 (by decide) ?_
    refine v_icmp_geN (tgt := 39) dX8_copies_6 (by decide) (by omega) (by omega) (fun b6 => ?_) (fun b6 => ?_)
    ·
      have e1 : i = 2848 := by omega
      subst e1
      refine v_ret dX8_copies_39 rfl (Nat.le_refl _) (Nat.le_refl _) ?_
      exact ⟨rfl, rfl, rfl⟩
    ·
      refine v_aload_n dX8_copies_9 rfl ?_
      refine v_get 0 dX8_copies_10 FTX8 (by decide) rfl fl_X8_7 (hM.st _).1 rfl ?_
      refine v_sipush (v := nI 2848) dX8_copies_13 (by decide) ?_
      refine v_iload_n dX8_copies_16 rfl ?_
      refine v_imulN dX8_copies_17 ?_
      refine v_iload_n dX8_copies_18 rfl ?_
      refine v_iaddN dX8_copies_19 ?_
      refine v_aload_n dX8_copies_20 rfl ?_
      refine v_get 0 dX8_copies_21 FTX8 (by decide) rfl fl_X8_7 (hM.st _).1 rfl ?_
      refine v_sipush (v := nI 2848) dX8_copies_24 (by decide) ?_
      refine v_iload_n dX8_copies_27 rfl ?_
      refine v_imulN dX8_copies_28 ?_
      refine v_iload_n dX8_copies_29 rfl ?_
      refine v_iaddN dX8_copies_30 ?_
      refine v_ialdE _ dX8_copies_31 (hM.st _).2.1 rfl (by omega) (by decide) (cpS_rd hne hi (by omega)) ?_
      refine v_iast _ dX8_copies_32 (hM.st _).2.1 rfl (by omega) (by decide) ?_
      refine v_eqw (wu_wu _ _ _ _).symm ?_
      refine v_iincN dX8_copies_33 (by decide) rfl rfl rfl ?_
      refine v_goto (tgt := 2) dX8_copies_36 (by decide) ?_
      refine v_sg cpS_S.symm ?_
      exact ih (by omega)
  refine v_sg (cpS_0 σ f t) ?_
  exact LP2 0 (Nat.zero_le _)
set_option maxHeartbeats 4000000 in
set_option maxRecDepth 100000 in
theorem c_records {w : Wd} {o ns tn : Nat} {kp : Int32} {σ tx cm : Nat → Int32} (hM : MW w o ns tn kp σ tx cm) (hns : ns ≤ 4) : Wr mX8_records 1 [.ref o] w (fun r' w' => r' = none ∧ MW w' o (rcn ns) tn kp (rcS σ ns) tx cm ∧ frO o w w') := by
  intro sz
  refine Ev.ofV [some (.ref o), none] (by decide) (Nat.le_of_ble_eq_true rfl) rfl rfl rfl ?_
  have TL : ∀ (w1 : Wd) (n1 : Nat) (s1 : Nat → Int32), MW w1 o n1 tn kp s1 tx cm → frO o w w1 → n1 ≤ 3 → rcn ns = n1 + 1 → rcS σ ns = cpS s1 0 (n1 + 1) 2848 → V mX8_records 1 0 0 (fun r' w' z => z = sz ∧ r' = none ∧ MW w' o (rcn ns) tn kp (rcS σ ns) tx cm ∧ frO o w w') (w1) (sz) (0) (0) [some (.ref o), none] [] 39 := by
    intro w1 n1 s1 h1 f1 hn e1 e2
    refine v_aload_n dX8_records_39 rfl ?_
    refine v_dup dX8_records_40 rfl ?_
    refine v_get 1 dX8_records_41 FTX8 (by decide) rfl fl_X8_20 h1.1 rfl ?_
    refine v_iconst (v := nI 1) dX8_records_44 (by decide) ?_
    refine v_iaddN dX8_records_45 ?_
    refine v_put 1 dX8_records_46 FTX8 (by decide) rfl fl_X8_20 h1.1 rfl rfl (Nat.le_of_ble_eq_true rfl) rfl ?_
    have h2 := h1.so (n1 + 1) tn kp
    refine v_aload_n dX8_records_49 rfl ?_
    refine v_iconst (v := nI 0) dX8_records_50 (by decide) ?_
    refine v_aload_n dX8_records_51 rfl ?_
    refine v_get 1 dX8_records_52 FTX8 (by decide) rfl fl_X8_20 h2.1 rfl ?_
    refine n_wV2 oX8_copies dX8_records_55 ml_X8_24 (c_copies h2 0 (n1 + 1) (by omega) (by omega) (by omega)) h2.1 (by decide) (Nat.le_of_ble_eq_true rfl) (Nat.le_refl _) (Nat.le_refl _) ?_
    refine v_ret dX8_records_58 rfl (Nat.le_refl _) (Nat.le_refl _) ?_
    exact ⟨rfl, rfl, by rw [e1, e2]; exact h2.st _, (f1.wu _ (by omega) (by omega)).wu _ (by omega) (by omega)⟩
  refine v_aload_n dX8_records_0 rfl ?_
  refine v_get 1 dX8_records_1 FTX8 (by decide) rfl fl_X8_20 hM.1 rfl ?_
  refine v_iconst (v := nI 4) dX8_records_4 (by decide) ?_
  refine v_icmp_neN (tgt := 39) dX8_records_5 (by decide) (by omega) (by omega) (fun b5 => ?_) (fun b5 => ?_)
  ·
    exact TL w ns σ hM (frO.rf o w) (by omega) (by simp [rcn, b5]) (by simp [rcS, rcn, b5])
  ·
    refine v_iconst (v := nI 1) dX8_records_8 (by decide) ?_
    refine v_istore_n dX8_records_9 (by decide) rfl ?_
    have LP10 : ∀ j, j ≤ 3 → V mX8_records 1 0 0 (fun r' w' z => z = sz ∧ r' = none ∧ MW w' o (rcn ns) tn kp (rcS σ ns) tx cm ∧ frO o w w') (wu w (o + 1) (ia 1 17088 (rc3 σ j))) (sz) (0) (0) [some (.ref o), some (.int (nI (j + 1)))] [] 10 := by
      refine dn (fun j hj ih => ?_)
      refine v_iload_n dX8_records_10 rfl ?_
      refine v_iconst (v := nI 4) dX8_records_11 (by decide) ?_
      refine v_icmp_geN (tgt := 29) dX8_records_12 (by decide) (by omega) (by omega) (fun b12 => ?_) (fun b12 => ?_)
      ·
        have e3 : j = 3 := by omega
        subst e3
        refine v_aload_n dX8_records_29 rfl ?_
        refine v_dup dX8_records_30 rfl ?_
        refine v_get 1 dX8_records_31 FTX8 (by decide) rfl fl_X8_20 (hM.st _).1 rfl ?_
        refine v_iconst (v := nI 1) dX8_records_34 (by decide) ?_
        refine v_isubN dX8_records_35 (by omega) ?_
        refine v_put 1 dX8_records_36 FTX8 (by decide) rfl fl_X8_20 (hM.st _).1 rfl rfl (Nat.le_of_ble_eq_true rfl) rfl ?_
        refine v_eqw (w' := wu (wu w (o + 1) (ia 1 17088 (rc3 σ 3))) o (moO o 3 tn kp)) (by rw [b5]; rfl) ?_
        refine v_drop 1 ?_
        exact TL _ 3 (rc3 σ 3) ((hM.st _).so 3 tn kp) (((frO.rf o w).wu _ (by omega) (by omega)).wu _ (by omega) (by omega)) (by omega) (by rw [b5]; rfl) (by simp [rcS, rcn, b5])
        --
      ·
        refine v_aload_n dX8_records_15 rfl ?_
        refine v_iload_n dX8_records_16 rfl ?_
        refine v_iconst (v := nI 1) dX8_records_17 (by decide) ?_
        refine v_iaddN dX8_records_18 ?_
        refine v_iload_n dX8_records_19 rfl ?_
        refine n_wV2 oX8_copies dX8_records_20 ml_X8_24 (c_copies (hM.st _) (j + 1 + 1) (j + 1) (by omega) (by omega) (by omega)) (hM.st _).1 (by decide) (Nat.le_of_ble_eq_true rfl) (Nat.le_refl _) (Nat.le_refl _) ?_
        refine v_iincN dX8_records_23 (by decide) rfl rfl rfl ?_
        refine v_goto (tgt := 10) dX8_records_26 (by decide) ?_
        refine v_eqw (wu_wu _ _ _ _).symm ?_
        exact ih (by omega)
    refine v_eqw hM.self ?_
    exact LP10 0 (by omega)
