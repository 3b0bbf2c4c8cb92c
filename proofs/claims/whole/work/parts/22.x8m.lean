def undoR (σ : Nat → Int32) (ns : Nat) : An := if ns = 0 then (-5, ns, σ) else (nI (ns - 1), ns - 1, cpS σ ns 0 2848)
def lbs (σ : Nat → Int32) : Nat := cnt (fun p => decide (0 < ln σ p)) 24
set_option maxHeartbeats 4000000 in
set_option maxRecDepth 100000 in
theorem c_type {w : Wd} {o ns tn : Nat} {kp : Int32} {σ tx cm : Nat → Int32} (hM : MW w o ns tn kp σ tx cm) (ht : tn ≤ 60) (c : Int32) : Wr mX8_type 0 [.ref o, .int c] w (fun r' w' => (tn = 60 ∧ r' = some (.int (-3)) ∧ w' = w) ∨ (tn < 60 ∧ r' = some (.int (nI (tn + 1))) ∧ MW w' o ns (tn + 1) kp σ (upd tx tn (vp_nar .char c)) cm ∧ frO o w w')) := by
  intro sz
  refine Ev.ofV [some (.ref o), some (.int c)] (by decide) (Nat.le_of_ble_eq_true rfl) rfl rfl rfl ?_
  refine v_aload_n dX8_type_0 rfl ?_
  refine v_get 4 dX8_type_1 FTX8 (by decide) rfl fl_X8_56 hM.1 rfl ?_
  refine v_bipush (v := nI 60) dX8_type_4 (by decide) ?_
  refine v_icmp_neN (tgt := 12) dX8_type_6 (by decide) (by omega) (by omega) (fun b6 => ?_) (fun b6 => ?_)
  ·
    refine v_aload_n dX8_type_12 rfl ?_
    refine v_get 3 dX8_type_13 FTX8 (by decide) rfl fl_X8_13 hM.1 rfl ?_
    refine v_aload_n dX8_type_16 rfl ?_
    refine v_get 4 dX8_type_17 FTX8 (by decide) rfl fl_X8_56 hM.1 rfl ?_
    refine v_iload_n dX8_type_20 rfl ?_
    refine v_cast _ dX8_type_21 hM.2.2.1 rfl (by omega) (by decide) ?_
    have h2 := hM.tx (upd tx tn (vp_nar .char c))
    refine v_aload_n dX8_type_22 rfl ?_
    refine v_dup dX8_type_23 rfl ?_
    refine v_get 4 dX8_type_24 FTX8 (by decide) rfl fl_X8_56 h2.1 rfl ?_
    refine v_iconst (v := nI 1) dX8_type_27 (by decide) ?_
    refine v_iaddN dX8_type_28 ?_
    refine v_put 4 dX8_type_29 FTX8 (by decide) rfl fl_X8_56 h2.1 rfl rfl (Nat.le_of_ble_eq_true rfl) rfl ?_
    have h3 := h2.so ns (tn + 1) kp
    refine v_aload_n dX8_type_32 rfl ?_
    refine v_get 4 dX8_type_33 FTX8 (by decide) rfl fl_X8_56 h3.1 rfl ?_
    refine v_iret dX8_type_36 rfl (Nat.le_refl _) (Nat.le_refl _) ?_
    exact ⟨rfl, Or.inr ⟨by omega, rfl, h3, ((frO.rf o w).wu _ (by omega) (by omega)).wu _ (by omega) (by omega)⟩⟩
  ·
    refine v_bipush (v := -3) dX8_type_9 (by decide) ?_
    refine v_iret dX8_type_11 rfl (Nat.le_refl _) (Nat.le_refl _) ?_
    exact ⟨rfl, Or.inl ⟨b6, rfl, rfl⟩⟩
set_option maxHeartbeats 4000000 in
set_option maxRecDepth 100000 in
theorem c_clearText {w : Wd} {o ns tn : Nat} {kp : Int32} {σ tx cm : Nat → Int32} (hM : MW w o ns tn kp σ tx cm) (ht : tn ≤ 60) : Wr mX8_clearText 0 [.ref o] w (fun r' w' => r' = some (.int (nI tn)) ∧ MW w' o ns 0 kp σ tx cm ∧ frO o w w') := by
  intro sz
  refine Ev.ofV [some (.ref o), none] (by decide) (Nat.le_of_ble_eq_true rfl) rfl rfl rfl ?_
  refine v_aload_n dX8_clearText_0 rfl ?_
  refine v_get 4 dX8_clearText_1 FTX8 (by decide) rfl fl_X8_56 hM.1 rfl ?_
  refine v_istore_n dX8_clearText_4 (by decide) rfl ?_
  refine v_aload_n dX8_clearText_5 rfl ?_
  refine v_iconst (v := nI 0) dX8_clearText_6 (by decide) ?_
  refine v_put 4 dX8_clearText_7 FTX8 (by decide) rfl fl_X8_56 hM.1 rfl rfl (Nat.le_of_ble_eq_true rfl) rfl ?_
  have h3 := hM.so ns 0 kp
  refine v_iload_n dX8_clearText_10 rfl ?_
  refine v_iret dX8_clearText_11 rfl (Nat.le_refl _) (Nat.le_refl _) ?_
  exact ⟨rfl, rfl, h3, (frO.rf o w).wu _ (by omega) (by omega)⟩
set_option maxHeartbeats 4000000 in
set_option maxRecDepth 100000 in
theorem c_undo {w : Wd} {o ns tn : Nat} {kp : Int32} {σ tx cm : Nat → Int32} (hM : MW w o ns tn kp σ tx cm) (hns : ns ≤ 4) : Wr mX8_undo 1 [.ref o] w (AnQ w o tn kp tx cm (undoR σ ns)) := by
  intro sz
  refine Ev.ofV [some (.ref o)] (by decide) (Nat.le_of_ble_eq_true rfl) rfl rfl rfl ?_
  refine v_aload_n dX8_undo_0 rfl ?_
  refine v_get 1 dX8_undo_1 FTX8 (by decide) rfl fl_X8_20 hM.1 rfl ?_
  refine v_if_neN (tgt := 10) dX8_undo_4 (by decide) (by omega) (fun b4 => ?_) (fun b4 => ?_)
  ·
    refine v_aload_n dX8_undo_10 rfl ?_
    refine v_aload_n dX8_undo_11 rfl ?_
    refine v_get 1 dX8_undo_12 FTX8 (by decide) rfl fl_X8_20 hM.1 rfl ?_
    refine v_iconst (v := nI 0) dX8_undo_15 (by decide) ?_
    refine n_wV2 oX8_copies dX8_undo_16 ml_X8_24 (c_copies hM ns 0 (by omega) (by omega) (by omega)) hM.1 (by decide) (Nat.le_of_ble_eq_true rfl) (Nat.le_refl _) (Nat.le_refl _) ?_
    have h2 := hM.st (cpS σ ns 0 2848)
    refine v_aload_n dX8_undo_19 rfl ?_
    refine v_dup dX8_undo_20 rfl ?_
    refine v_get 1 dX8_undo_21 FTX8 (by decide) rfl fl_X8_20 h2.1 rfl ?_
    refine v_iconst (v := nI 1) dX8_undo_24 (by decide) ?_
    refine v_isubN dX8_undo_25 (by omega) ?_
    refine v_put 1 dX8_undo_26 FTX8 (by decide) rfl fl_X8_20 h2.1 rfl rfl (Nat.le_of_ble_eq_true rfl) rfl ?_
    have h3 := h2.so (ns - 1) tn kp
    refine v_aload_n dX8_undo_29 rfl ?_
    refine v_get 1 dX8_undo_30 FTX8 (by decide) rfl fl_X8_20 h3.1 rfl ?_
    refine v_iret dX8_undo_33 rfl (Nat.le_refl _) (Nat.le_refl _) ?_
    have e : undoR σ ns = (nI (ns - 1), ns - 1, cpS σ ns 0 2848) := by
      unfold undoR
      rw [if_neg b4]
    rw [e]
    exact ⟨rfl, rfl, h3, ((frO.rf o w).wu _ (by omega) (by omega)).wu _ (by omega) (by omega)⟩
  ·
    refine v_bipush (v := -5) dX8_undo_7 (by decide) ?_
    refine v_iret dX8_undo_9 rfl (Nat.le_refl _) (Nat.le_refl _) ?_
    have e : undoR σ ns = (-5, ns, σ) := by
      unfold undoR
      rw [if_pos b4]
    rw [e]
    exact ⟨rfl, rfl, hM, frO.rf o w⟩
set_option maxHeartbeats 4000000 in
set_option maxRecDepth 100000 in
theorem c_keep {w : Wd} {o ns tn : Nat} {kp : Int32} {σ tx cm : Nat → Int32} (hM : MW w o ns tn kp σ tx cm) (hW : WS σ) : Wr mX8_keep 1 [.ref o] w (fun r' w' => r' = some (.int (nI (lbs (cpS σ 0 5 2848)))) ∧ MW w' o ns tn (nI 1) (cpS σ 0 5 2848) tx cm ∧ frO o w w') := by
  intro sz
  refine Ev.ofV [some (.ref o)] (by decide) (Nat.le_of_ble_eq_true rfl) rfl rfl rfl ?_
  refine v_aload_n dX8_keep_0 rfl ?_
  refine v_iconst (v := nI 0) dX8_keep_1 (by decide) ?_
  refine v_iconst (v := nI 5) dX8_keep_2 (by decide) ?_
  refine n_wV2 oX8_copies dX8_keep_3 ml_X8_24 (c_copies hM 0 5 (by omega) (by omega) (by omega)) hM.1 (by decide) (Nat.le_of_ble_eq_true rfl) (Nat.le_refl _) (Nat.le_refl _) ?_
  have h2 := hM.st (cpS σ 0 5 2848)
  refine v_aload_n dX8_keep_6 rfl ?_
  refine v_iconst (v := nI 1) dX8_keep_7 (by decide) ?_
  refine v_put 2 dX8_keep_8 FTX8 (by decide) rfl fl_X8_107 h2.1 rfl rfl (Nat.le_of_ble_eq_true rfl) rfl ?_
  have h3 := h2.so ns tn (nI 1)
  have hW5 : WS (cpS σ 0 5 2848) := hW.congr (fun q hq => by unfold cpS; rw [if_neg (by omega)])
  refine v_aload_n dX8_keep_11 rfl ?_
  refine u_rV0 oX8_labels dX8_keep_12 ml_X8_111 (show Rd mX8_labels 0 _ _ (some (.int (nI (lbs (cpS σ 0 5 2848))))) from c_labels h3 (fun p hp => (hW5.2.2.2.2.2.1 p hp).1)) h3.1 (by decide) (Nat.le_of_ble_eq_true rfl) (Nat.le_refl _) (Nat.le_refl _) ?_
  refine v_iret dX8_keep_15 rfl (Nat.le_refl _) (Nat.le_refl _) ?_
  exact ⟨rfl, rfl, h3, ((frO.rf o w).wu _ (by omega) (by omega)).wu _ (by omega) (by omega)⟩
def restoreR (σ : Nat → Int32) (ns : Nat) (k : Bool) : An := if k = true then (nI (lbs (cpS (rcS σ ns) 5 0 2848)), rcn ns, cpS (rcS σ ns) 5 0 2848) else (-5, ns, σ)
set_option maxHeartbeats 4000000 in
set_option maxRecDepth 100000 in
theorem c_restore {w : Wd} {o ns tn : Nat} {kp : Int32} {σ tx cm : Nat → Int32} (hM : MW w o ns tn kp σ tx cm) (hns : ns ≤ 4) (k : Bool) (hk : kp = b2i k) (hW5 : k = true → WS (cpS (rcS σ ns) 5 0 2848)) : Wr mX8_restore 2 [.ref o] w (AnQ w o tn kp tx cm (restoreR σ ns k)) := by
  intro sz
  refine Ev.ofV [some (.ref o)] (by decide) (Nat.le_of_ble_eq_true rfl) rfl rfl rfl ?_
  subst hk
  refine v_aload_n dX8_restore_0 rfl ?_
  refine v_get 2 dX8_restore_1 FTX8 (by decide) rfl fl_X8_107 hM.1 rfl ?_
  refine v_if_neB (tgt := 10) dX8_restore_4 (by decide) (fun b4 => ?_) (fun b4 => ?_)
  ·
    refine v_aload_n dX8_restore_10 rfl ?_
    refine v_wV0 oX8_records dX8_restore_11 ml_X8_63 (c_records hM hns) hM.1 (by decide) (Nat.le_of_ble_eq_true rfl) (Nat.le_refl _) (Nat.le_refl _) (fun r' w1 hq => ?_)
    obtain ⟨rfl, h1, f1⟩ := hq
    obtain ⟨σ1, es⟩ : ∃ s, s = rcS σ ns := ⟨_, rfl⟩
    rw [← es] at h1
    refine v_eqw h1.self ?_
    refine v_aload_n dX8_restore_14 rfl ?_
    refine v_iconst (v := nI 5) dX8_restore_15 (by decide) ?_
    refine v_iconst (v := nI 0) dX8_restore_16 (by decide) ?_
    refine n_wV2 oX8_copies dX8_restore_17 ml_X8_24 (c_copies (h1.st _) 5 0 (by omega) (by omega) (by omega)) (h1.st _).1 (by decide) (Nat.le_of_ble_eq_true rfl) (Nat.le_refl _) (Nat.le_refl _) ?_
    refine v_eqw (wu_wu _ _ _ _).symm ?_
    refine v_aload_n dX8_restore_20 rfl ?_
    refine u_rV0 oX8_labels dX8_restore_21 ml_X8_111 (show Rd mX8_labels 0 _ _ (some (.int (nI (lbs (cpS σ1 5 0 2848))))) from c_labels (h1.st _) (fun p hp => ((by rw [es]; exact hW5 b4 : WS (cpS σ1 5 0 2848)).2.2.2.2.2.1 p hp).1)) (h1.st _).1 (by decide) (Nat.le_of_ble_eq_true rfl) (Nat.le_refl _) (Nat.le_refl _) ?_
    refine v_iret dX8_restore_24 rfl (Nat.le_refl _) (Nat.le_refl _) ?_
    have e : restoreR σ ns k = (nI (lbs (cpS (rcS σ ns) 5 0 2848)), rcn ns, cpS (rcS σ ns) 5 0 2848) := by
      unfold restoreR
      rw [if_pos b4]
    rw [e, ← es]
    exact ⟨rfl, rfl, h1.st _, f1.wu _ (by omega) (by omega)⟩
  ·
    refine v_bipush (v := -5) dX8_restore_7 (by decide) ?_
    refine v_iret dX8_restore_9 rfl (Nat.le_refl _) (Nat.le_refl _) ?_
    have e : restoreR σ ns k = (-5, ns, σ) := by
      unfold restoreR
      rw [if_neg (by rw [b4]; decide)]
    rw [e]
    exact ⟨rfl, rfl, hM, frO.rf o w⟩
