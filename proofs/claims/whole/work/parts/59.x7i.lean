theorem CR_tx {w w' : Wd} {B : Nat} {σ : Nat → Int32} {ns tn m : Nat} {k : Bool} {tx ty : Nat → Int32} (h : CR w B σ ns k tx tn) (hT : TO w' (B + 1) ty m) (hf : fr (B + 1) 2 w w') : CR w' B σ ns k ty m := by
  obtain ⟨nx, hh, gk, ⟨h1, -, ⟨f, n, h3⟩, h4, h5, h6, R, h7⟩, g⟩ := h
  exact ⟨nx, hh, gk, ⟨(hf _ (by omega)).trans h1, hT, ⟨f, n, h3.fr (fun q a b => hf q (by omega))⟩, h4.fr (fun q a b => hf q (by omega)), h5.fr (fun q a b => hf q (by omega)), h6.fr (fun q a b => hf q (by omega)), R, (hf _ (by omega)).trans h7⟩, g⟩
set_option maxHeartbeats 1000000 in
set_option maxRecDepth 100000 in
theorem k_type {w : Wd} {B ns tn : Nat} {σ tx : Nat → Int32} {k : Bool} (h : CR w B σ ns k tx tn) (c : Int32) : Wr mX7_type 6 [.ref B, .int c] w (fun r' w' => (tn = 60 ∧ r' = some (.int (-3)) ∧ CR w' B σ ns k tx tn ∧ fr B 1017 w w') ∨ (tn < 60 ∧ r' = some (.int (nI (tn + 1))) ∧ CR w' B σ ns k (upd tx tn (vp_nar .char c)) (tn + 1) ∧ fr B 1017 w w')) := by
  intro sz
  refine Ev.ofV [some (.ref B), some (.int c)] (by decide) (Nat.le_of_ble_eq_true rfl) rfl rfl rfl ?_
  have h00 := h
  obtain ⟨nx, hh, gk, hX, hG⟩ := h00
  have hXb := hX
  obtain ⟨x1, x2, ⟨f0, n0, x3⟩, x4, x5, x6, R0, x7⟩ := hXb
  have hS0 := x4
  obtain ⟨hB, ⟨n, π, κ, hRR⟩, hW, hI, hO⟩ := hS0
  have hBb := hB
  obtain ⟨s1, ⟨li, s2, s2b⟩, ⟨ak, s3, s3b⟩, ⟨ro, s4, s4b⟩, ⟨ac, s5, s5b⟩, ⟨lf, s6, s6b⟩, s7⟩ := hBb
  have hRb := hRR
  obtain ⟨⟨F, r1, r2, r3⟩, hK, hP, hS, hR⟩ := hRb
  have x5b := x5
  obtain ⟨⟨hf, v1, v2, v3⟩, hns, hnx, v4⟩ := x5b
  refine v_aload_n dX7_type_0 rfl ?_
  refine v_get 0 dX7_type_1 FTX7 (by decide) rfl fl_X7_12 x1 rfl ?_
  refine v_iload_n dX7_type_4 rfl ?_
  refine v_wV1 oX5_add dX7_type_5 ml_X7_173 (c_add x2 c) x2.1 (by decide) (Nat.le_of_ble_eq_true rfl) (Nat.le_refl _) (Nat.le_refl _) (fun r' w1 hq => ?_)
  rcases hq with ⟨q1, rfl, rfl⟩ | ⟨q1, rfl, q3, q4⟩
  ·
    refine v_if_eqB (tgt := 21) dX7_type_8 (by decide) (fun b8 => ?_) (fun b8 => ?_)
    ·
      refine v_bipush (v := -3) dX7_type_21 (by decide) ?_
      refine v_iret dX7_type_23 rfl (Nat.le_refl _) (Nat.le_refl _) ?_
      exact ⟨rfl, Or.inl ⟨q1, rfl, h, fr.rf _ _ _⟩⟩
    ·
      exact absurd b8 (by decide)
  ·
    refine v_if_eqB (tgt := 21) dX7_type_8 (by decide) (fun b8 => ?_) (fun b8 => ?_)
    ·
      exact absurd b8 (by decide)
    ·
      refine v_aload_n dX7_type_11 rfl ?_
      refine v_get 0 dX7_type_12 FTX7 (by decide) rfl fl_X7_12 ((q4 _ (by omega)).trans x1) rfl ?_
      refine v_get 1 dX7_type_15 FTX5 (by decide) rfl fl_X7_177 q3.1 rfl ?_
      refine v_goto (tgt := 23) dX7_type_18 (by decide) ?_
      refine v_iret dX7_type_23 rfl (Nat.le_refl _) (Nat.le_refl _) ?_
      exact ⟨rfl, Or.inr ⟨q1, rfl, CR_tx h q3 q4, q4.mono (by omega) (by omega)⟩⟩
set_option maxHeartbeats 1000000 in
set_option maxRecDepth 100000 in
theorem k_clearText {w : Wd} {B ns tn : Nat} {σ tx : Nat → Int32} {k : Bool} (h : CR w B σ ns k tx tn) : Wr mX7_clearText 6 [.ref B] w (fun r' w' => r' = some (.int (nI tn)) ∧ CR w' B σ ns k tx 0 ∧ fr B 1017 w w') := by
  intro sz
  refine Ev.ofV [some (.ref B), none] (by decide) (Nat.le_of_ble_eq_true rfl) rfl rfl rfl ?_
  have h00 := h
  obtain ⟨nx, hh, gk, hX, hG⟩ := h00
  have hXb := hX
  obtain ⟨x1, x2, ⟨f0, n0, x3⟩, x4, x5, x6, R0, x7⟩ := hXb
  have hS0 := x4
  obtain ⟨hB, ⟨n, π, κ, hRR⟩, hW, hI, hO⟩ := hS0
  have hBb := hB
  obtain ⟨s1, ⟨li, s2, s2b⟩, ⟨ak, s3, s3b⟩, ⟨ro, s4, s4b⟩, ⟨ac, s5, s5b⟩, ⟨lf, s6, s6b⟩, s7⟩ := hBb
  have hRb := hRR
  obtain ⟨⟨F, r1, r2, r3⟩, hK, hP, hS, hR⟩ := hRb
  have x5b := x5
  obtain ⟨⟨hf, v1, v2, v3⟩, hns, hnx, v4⟩ := x5b
  refine v_aload_n dX7_clearText_0 rfl ?_
  refine v_get 0 dX7_clearText_1 FTX7 (by decide) rfl fl_X7_12 x1 rfl ?_
  refine v_get 1 dX7_clearText_4 FTX5 (by decide) rfl fl_X7_177 x2.1 rfl ?_
  refine v_istore_n dX7_clearText_7 (by decide) rfl ?_
  refine v_aload_n dX7_clearText_8 rfl ?_
  refine v_get 0 dX7_clearText_9 FTX7 (by decide) rfl fl_X7_12 x1 rfl ?_
  refine v_iconst (v := nI 0) dX7_clearText_12 (by decide) ?_
  refine v_put 1 dX7_clearText_13 FTX5 (by decide) rfl fl_X7_177 x2.1 rfl rfl (Nat.le_of_ble_eq_true rfl) rfl ?_
  have q3 : TO (wu w (B + 1) (ob 5 [.ref (B + 1 + 1), .int (nI 0)])) (B + 1) tx 0 := ⟨wu_eq _ _ _, (wu_ne _ _ (by omega)).trans x2.2.1, by omega⟩
  refine v_iload_n dX7_clearText_16 rfl ?_
  refine v_iret dX7_clearText_17 rfl (Nat.le_refl _) (Nat.le_refl _) ?_
  exact ⟨rfl, rfl, CR_tx h q3 ((fr.rf _ _ _).wu _ (by omega) (by omega)), (fr.rf _ _ _).wu _ (by omega) (by omega)⟩
set_option maxHeartbeats 1000000 in
set_option maxRecDepth 100000 in
theorem k_undo {w : Wd} {B ns tn : Nat} {σ tx : Nat → Int32} {k : Bool} (h : CR w B σ ns k tx tn) : Wr mX7_undo 6 [.ref B] w (CQ w B k tx tn (undoR σ ns)) := by
  intro sz
  refine Ev.ofV [some (.ref B)] (by decide) (Nat.le_of_ble_eq_true rfl) rfl rfl rfl ?_
  have h00 := h
  obtain ⟨nx, hh, gk, hX, hG⟩ := h00
  have hXb := hX
  obtain ⟨x1, x2, ⟨f0, n0, x3⟩, x4, x5, x6, R0, x7⟩ := hXb
  have hS0 := x4
  obtain ⟨hB, ⟨n, π, κ, hRR⟩, hW, hI, hO⟩ := hS0
  have hBb := hB
  obtain ⟨s1, ⟨li, s2, s2b⟩, ⟨ak, s3, s3b⟩, ⟨ro, s4, s4b⟩, ⟨ac, s5, s5b⟩, ⟨lf, s6, s6b⟩, s7⟩ := hBb
  have hRb := hRR
  obtain ⟨⟨F, r1, r2, r3⟩, hK, hP, hS, hR⟩ := hRb
  have x5b := x5
  obtain ⟨⟨hf, v1, v2, v3⟩, hns, hnx, v4⟩ := x5b
  refine v_aload_n dX7_undo_0 rfl ?_
  refine v_get 3 dX7_undo_1 FTX7 (by decide) rfl fl_X7_33 x1 rfl ?_
  refine v_get 1 dX7_undo_4 FTX0 (by decide) rfl fl_X7_180 v1 rfl ?_
  refine v_if_neN (tgt := 13) dX7_undo_7 (by decide) (by omega) (fun b7 => ?_) (fun b7 => ?_)
  ·
    have hpos : 0 < ns := by omega
    refine v_aload_n dX7_undo_13 rfl ?_
    refine v_get 3 dX7_undo_14 FTX7 (by decide) rfl fl_X7_33 x1 rfl ?_
    refine v_aload_n dX7_undo_17 rfl ?_
    refine v_get 2 dX7_undo_18 FTX7 (by decide) rfl fl_X7_26 x1 rfl ?_
    refine v_wV1 oX0_popInto dX7_undo_21 ml_X7_181 (c_popInto x5 x4 (by omega) hpos) v1 (by decide) (Nat.le_of_ble_eq_true rfl) (Nat.le_refl _) (Nat.le_refl _) (fun r' w1 hq => ?_)
    obtain ⟨rfl, q1, q2, q3⟩ := hq
    have hC : CR w1 B (cpS σ ns 0 2848) (ns - 1) k tx tn := by
      obtain ⟨g1, g2⟩ := hG
      have hsl : ∀ q, q < 2848 → cpS σ ns 0 2848 q = hh ((nx + 4 - 1) % 4) q := fun q hq => by
        have := g1 ns hpos (Nat.le_refl _) q hq
        rw [show (nx + 3 + ns - ns) % 4 = (nx + 4 - 1) % 4 by omega] at this
        have h2 := cp_in (σ := σ) (f := ns) (t := 0) hq
        rw [show 2848 * 0 + q = q by omega] at h2
        rw [this, h2]
      refine ⟨_, hh, gk, ⟨(q3 _ (by omega) (by omega)).trans x1, ⟨(q3 _ (by omega) (by omega)).trans x2.1, (q3 _ (by omega) (by omega)).trans x2.2.1, x2.2.2⟩, ⟨f0, n0, x3.fr (fun q a b => q3 q (by omega) (by omega))⟩, q2.congr hsl, q1, x6.fr (fun q a b => q3 q (by omega) (by omega)), R0, (q3 _ (by omega) (by omega)).trans x7⟩, fun j hj hj2 q hq => ?_, fun hk q hq => ?_⟩
      · rw [cp_out (by omega), ← g1 j hj (by omega) q hq]
        have ei : ((nx + 4 - 1) % 4 + 3 + j - (ns - 1)) % 4 = (nx + 3 + j - ns) % 4 := by omega
        rw [ei]
      · rw [cp_out (by omega)]
        exact g2 hk q hq
    have tw := (q3 _ (by omega) (by omega)).trans x1
    have fw1 : fr B 1017 w w1 := fun q hq => q3 q (by omega) (by omega)
    refine v_aload_n dX7_undo_24 rfl ?_
    refine v_get 3 dX7_undo_25 FTX7 (by decide) rfl fl_X7_33 tw rfl ?_
    refine v_get 1 dX7_undo_28 FTX0 (by decide) rfl fl_X7_180 q1.1.choose_spec.1 rfl ?_
    refine v_iret dX7_undo_31 rfl (Nat.le_refl _) (Nat.le_refl _) ?_
    have e : undoR σ ns = (nI (ns - 1), ns - 1, cpS σ ns 0 2848) := by
      unfold undoR
      rw [if_neg b7]
    rw [e]
    exact ⟨rfl, CQ.mk hC fw1⟩
  ·
    refine v_bipush (v := -5) dX7_undo_10 (by decide) ?_
    refine v_iret dX7_undo_12 rfl (Nat.le_refl _) (Nat.le_refl _) ?_
    have e : undoR σ ns = (-5, ns, σ) := by
      unfold undoR
      rw [if_pos b7]
    rw [e]
    exact ⟨rfl, CQ.mk h (fr.rf _ _ _)⟩
theorem lbs_congr {g s : Nat → Int32} (e : ∀ q, q < 2848 → s q = g q) : lbs s = lbs g := by
  unfold lbs
  refine cnt_congr (fun p hp => ?_)
  unfold ln
  rw [e _ (by omega)]
theorem cp05 {σ : Nat → Int32} {q : Nat} (hq : q < 2848) : cpS σ 0 5 2848 q = σ q := cp_out (by omega)
set_option maxHeartbeats 1000000 in
set_option maxRecDepth 100000 in
theorem k_keep {w : Wd} {B ns tn : Nat} {σ tx : Nat → Int32} {k : Bool} (h : CR w B σ ns k tx tn) : Wr mX7_keep 6 [.ref B] w (fun r' w' => r' = some (.int (nI (lbs (cpS σ 0 5 2848)))) ∧ CR w' B (cpS σ 0 5 2848) ns true tx tn ∧ fr B 1017 w w') := by
  intro sz
  refine Ev.ofV [some (.ref B)] (by decide) (Nat.le_of_ble_eq_true rfl) rfl rfl rfl ?_
  have h00 := h
  obtain ⟨nx, hh, gk, hX, hG⟩ := h00
  have hXb := hX
  obtain ⟨x1, x2, ⟨f0, n0, x3⟩, x4, x5, x6, R0, x7⟩ := hXb
  have hS0 := x4
  obtain ⟨hB, ⟨n, π, κ, hRR⟩, hW, hI, hO⟩ := hS0
  have hBb := hB
  obtain ⟨s1, ⟨li, s2, s2b⟩, ⟨ak, s3, s3b⟩, ⟨ro, s4, s4b⟩, ⟨ac, s5, s5b⟩, ⟨lf, s6, s6b⟩, s7⟩ := hBb
  have hRb := hRR
  obtain ⟨⟨F, r1, r2, r3⟩, hK, hP, hS, hR⟩ := hRb
  have x5b := x5
  obtain ⟨⟨hf, v1, v2, v3⟩, hns, hnx, v4⟩ := x5b
  refine v_aload_n dX7_keep_0 rfl ?_
  refine v_get 4 dX7_keep_1 FTX7 (by decide) rfl fl_X7_37 x1 rfl ?_
  refine v_aload_n dX7_keep_4 rfl ?_
  refine v_get 2 dX7_keep_5 FTX7 (by decide) rfl fl_X7_26 x1 rfl ?_
  refine v_wV1 oX4_copyFrom dX7_keep_8 ml_X7_184 (c_scopy x6 x4 (by omega)) x6.1.1 (by decide) (Nat.le_of_ble_eq_true rfl) (Nat.le_refl _) (Nat.le_refl _) (fun r' w1 hq => ?_)
  obtain ⟨rfl, q1, q2⟩ := hq
  refine v_aload_n dX7_keep_11 rfl ?_
  refine v_iconst (v := nI 1) dX7_keep_12 (by decide) ?_
  refine v_put 5 dX7_keep_13 FTX7 (by decide) rfl fl_X7_40 ((q2 _ (by omega)).trans x1) rfl rfl (Nat.le_of_ble_eq_true rfl) rfl ?_
  have hS2 : SR (wu w1 B (ob 7 [.ref (B + 1), .ref (B + 3), .ref (B + 6), .ref (B + 174), .ref (B + 848), .int (nI 1), .ref (B + 1016)])) (B + 6) σ := x4.fr (fun q a b => by rw [wu_ne _ _ (by omega), q2 q (by omega)])
  refine v_aload_n dX7_keep_16 rfl ?_
  refine v_get 2 dX7_keep_17 FTX7 (by decide) rfl fl_X7_26 (wu_eq _ _ _) rfl ?_
  refine u_rV0 oX4_allLabels dX7_keep_20 ml_X7_187 (c_allLabels hS2) hS2.1.1 (by decide) (Nat.le_of_ble_eq_true rfl) (Nat.le_refl _) (Nat.le_refl _) ?_
  refine v_iret dX7_keep_23 rfl (Nat.le_refl _) (Nat.le_refl _) ?_
  have ew : ∀ q, q ≠ B → (q < B + 848 ∨ B + 1016 ≤ q) → wu w1 B (ob 7 [.ref (B + 1), .ref (B + 3), .ref (B + 6), .ref (B + 174), .ref (B + 848), .int (nI 1), .ref (B + 1016)]) q = w q := fun q a b => by rw [wu_ne _ _ a, q2 q b]
  refine ⟨rfl, by rw [lbs_congr (fun q hq => cp05 hq)], ⟨nx, hh, σ, ⟨wu_eq _ _ _, ⟨(ew _ (by omega) (by omega)).trans x2.1, (ew _ (by omega) (by omega)).trans x2.2.1, x2.2.2⟩, ⟨f0, n0, x3.fr (fun q a b => ew q (by omega) (by omega))⟩, hS2.congr (fun q hq => cp05 hq), x5.fr (fun q a b => ew q (by omega) (by omega)), q1.fr (fun q a b => wu_ne _ _ (by omega)), R0, (ew _ (by omega) (by omega)).trans x7⟩, fun j hj hj2 q hq => ?_, fun _ q hq => ?_⟩, (q2.mono (by omega) (by omega)).wu _ (by omega) (by omega)⟩
  · rw [cp_out (by omega)]
    exact hG.1 j hj hj2 q hq
  · rw [cp_in hq, show 2848 * 0 + q = q by omega]
set_option maxHeartbeats 1000000 in
set_option maxRecDepth 100000 in
theorem k_restore {w : Wd} {B ns tn : Nat} {σ tx : Nat → Int32} {k : Bool} (h : CR w B σ ns k tx tn) : Wr mX7_restore 6 [.ref B] w (CQ w B k tx tn (restoreR σ ns k)) := by
  intro sz
  refine Ev.ofV [some (.ref B)] (by decide) (Nat.le_of_ble_eq_true rfl) rfl rfl rfl ?_
  have h00 := h
  obtain ⟨nx, hh, gk, hX, hG⟩ := h00
  have hXb := hX
  obtain ⟨x1, x2, ⟨f0, n0, x3⟩, x4, x5, x6, R0, x7⟩ := hXb
  have hS0 := x4
  obtain ⟨hB, ⟨n, π, κ, hRR⟩, hW, hI, hO⟩ := hS0
  have hBb := hB
  obtain ⟨s1, ⟨li, s2, s2b⟩, ⟨ak, s3, s3b⟩, ⟨ro, s4, s4b⟩, ⟨ac, s5, s5b⟩, ⟨lf, s6, s6b⟩, s7⟩ := hBb
  have hRb := hRR
  obtain ⟨⟨F, r1, r2, r3⟩, hK, hP, hS, hR⟩ := hRb
  have x5b := x5
  obtain ⟨⟨hf, v1, v2, v3⟩, hns, hnx, v4⟩ := x5b
  refine v_aload_n dX7_restore_0 rfl ?_
  refine v_get 5 dX7_restore_1 FTX7 (by decide) rfl fl_X7_40 x1 rfl ?_
  refine v_if_neB (tgt := 10) dX7_restore_4 (by decide) (fun b4 => ?_) (fun b4 => ?_)
  ·
    refine v_aload_n dX7_restore_10 rfl ?_
    refine v_get 3 dX7_restore_11 FTX7 (by decide) rfl fl_X7_33 x1 rfl ?_
    refine v_aload_n dX7_restore_14 rfl ?_
    refine v_get 2 dX7_restore_15 FTX7 (by decide) rfl fl_X7_26 x1 rfl ?_
    refine v_wV1 oX0_push dX7_restore_18 ml_X7_55 (c_push x5 x4 (by omega)) v1 (by decide) (Nat.le_of_ble_eq_true rfl) (Nat.le_refl _) (Nat.le_refl _) (fun r' w1 hq => ?_)
    obtain ⟨rfl, q1, q2⟩ := hq
    have hC := CR_push hX hG q1 q2
    have hCb := hC
    obtain ⟨ny, hy, gy, ⟨y1, y2, ⟨f1, m1, y3⟩, y4, y5, y6, R1, y7⟩, hGy⟩ := hCb
    have y4b := y4
    obtain ⟨hBy, -, hWy, hIy, hOy⟩ := y4b
    have hByb := hBy
    obtain ⟨t1, ⟨liy, t2, t2b⟩, ⟨aky, t3, t3b⟩, ⟨roy, t4, t4b⟩, ⟨acy, t5, t5b⟩, ⟨lfy, t6, t6b⟩, t7⟩ := hByb
    have f1w : fr B 1017 w w1 := q2.mono (by omega) (by omega)
    refine v_aload_n dX7_restore_21 rfl ?_
    refine v_get 2 dX7_restore_22 FTX7 (by decide) rfl fl_X7_26 y1 rfl ?_
    refine v_aload_n dX7_restore_25 rfl ?_
    refine v_get 4 dX7_restore_26 FTX7 (by decide) rfl fl_X7_37 y1 rfl ?_
    refine v_wV1 oX4_copyFrom dX7_restore_29 ml_X7_184 (c_scopy y4 y6 (by omega)) t1 (by decide) (Nat.le_of_ble_eq_true rfl) (Nat.le_refl _) (Nat.le_refl _) (fun r' w2 hq => ?_)
    obtain ⟨rfl, q3, q4⟩ := hq
    have hsl : ∀ q, q < 2848 → cpS (rcS σ ns) 5 0 2848 q = gy q := fun q hq => by
      have h2 := cp_in (σ := rcS σ ns) (f := 5) (t := 0) hq
      rw [show 2848 * 0 + q = q by omega] at h2
      rw [hGy.2 b4 q hq, h2]
    have q5 := q3.congr hsl
    have tw := (q4 _ (by omega)).trans y1
    refine v_aload_n dX7_restore_32 rfl ?_
    refine v_get 2 dX7_restore_33 FTX7 (by decide) rfl fl_X7_26 tw rfl ?_
    refine u_rV0 oX4_allLabels dX7_restore_36 ml_X7_187 (c_allLabels q5) q5.1.1 (by decide) (Nat.le_of_ble_eq_true rfl) (Nat.le_refl _) (Nat.le_refl _) ?_
    refine v_iret dX7_restore_39 rfl (Nat.le_refl _) (Nat.le_refl _) ?_
    have e : restoreR σ ns k = (nI (lbs (cpS (rcS σ ns) 5 0 2848)), rcn ns, cpS (rcS σ ns) 5 0 2848) := by
      unfold restoreR
      rw [if_pos b4]
    rw [e]
    exact ⟨rfl, CQ.mk (CR_st hC q5 q4 (fun q hq => cp_out (by omega))) (f1w.tr (q4.mono (by omega) (by omega)))⟩
  ·
    refine v_bipush (v := -5) dX7_restore_7 (by decide) ?_
    refine v_iret dX7_restore_9 rfl (Nat.le_refl _) (Nat.le_refl _) ?_
    have e : restoreR σ ns k = (-5, ns, σ) := by
      unfold restoreR
      rw [if_neg (by rw [b4]; decide)]
    rw [e]
    exact ⟨rfl, CQ.mk h (fr.rf _ _ _)⟩
theorem hnX7 : ∀ j, j < 7 → defaultValue (tyX7 j) = vp_V [.null, .null, .null, .null, .null, .int 0, .null] j := by decide
set_option maxHeartbeats 1000000 in
set_option maxRecDepth 100000 in
theorem c_X7init {w : Wd} {B : Nat} (h0 : w B = some (ob 7 [.null, .null, .null, .null, .null, .int 0, .null])) : Ev mX7_init 6 [.ref B] w (B + 1) 1016 24627 (fun r' w' zz => r' = none ∧ zz = B + 1017 ∧ CR w' B (in5 16) 0 false (fun _ => 0) 0 ∧ fr B 1017 w w') := by
  refine Ev.ofV [some (.ref B)] (by decide) (Nat.le_of_ble_eq_true rfl) rfl rfl rfl ?_
  refine v_aload_n dX7_init_0 rfl ?_
  refine v_objInit dX7_init_1 ml_X7_3 (by decide) (Nat.le_of_ble_eq_true rfl) ?_
  refine v_aload_n dX7_init_4 rfl ?_
  refine v_new (fs := [.null, .int 0]) dX7_init_5 FTX5 cl_X7_9 insX5 iniX5 hnX5 (by omega) (by omega) ?_
  refine v_dup dX7_init_8 rfl ?_
  refine v_callIN (As := []) oX5_init dX7_init_9 (by decide) (c_X5init rfl (wu_eq _ _ _)) rfl (by decide) (Nat.le_of_ble_eq_true rfl) (by omega) (by omega) (fun r' wc zz1 hq => ?_)
  obtain ⟨rfl, rfl, q1, q2⟩ := hq
  refine v_putF 0 dX7_init_12 FTX7 (by decide) rfl fl_X7_12 ((q2 _ (by omega)).trans ((wu_ne _ _ (by omega)).trans h0)) rfl rfl (Nat.le_of_ble_eq_true rfl) rfl rfl rfl ?_
  have e9 : ∀ q, q ≠ B → q ≠ B + 1 → (q < B + 1 ∨ B + 3 ≤ q) → wu wc B (ob 7 [.ref (B + 1), .null, .null, .null, .null, .int 0, .null]) q = w q := fun q a b c => by rw [wu_ne _ _ a, q2 q (by omega), wu_ne _ _ (by omega)]
  refine v_gen (fun w' => (w' B = some (ob 7 [.ref (B + 1), .null, .null, .null, .null, .int 0, .null]) ∧ TO w' (B + 1) (fun _ => 0) 0 ∧ fr B 1017 w w')) ⟨wu_eq _ _ _, ⟨(wu_ne _ _ (by omega)).trans q1.1, (wu_ne _ _ (by omega)).trans q1.2.1, q1.2.2⟩, fun q hq => (e9 q (by omega) (by omega) (by omega))⟩ (fun wg hwg => ?_)
  obtain ⟨g1, g2, g3⟩ := hwg
  refine v_eqz (show B + 3 = _ by omega) ?_
  refine v_eqc (show 2 = _ by omega) (show 62 = _ by omega) ?_
  refine v_aload_n dX7_init_15 rfl ?_
  refine v_new (fs := [.null, .int 0, .null, .int 0]) dX7_init_16 FTX6 cl_X7_16 insX6 iniX6 hnX6 (by omega) (by omega) ?_
  refine v_dup dX7_init_19 rfl ?_
  refine v_callIN (As := []) oX6_init dX7_init_20 (by decide) (c_X6init rfl (wu_eq _ _ _)) rfl (by decide) (Nat.le_of_ble_eq_true rfl) (by omega) (by omega) (fun r' wc zz1 hq => ?_)
  obtain ⟨rfl, rfl, q1a, q2⟩ := hq
  have q1 := q1a (fun _ => 0)
  refine v_putF 1 dX7_init_23 FTX7 (by decide) rfl fl_X7_19 ((q2 _ (by omega)).trans ((wu_ne _ _ (by omega)).trans g1)) rfl rfl (Nat.le_of_ble_eq_true rfl) rfl rfl rfl ?_
  have e9 : ∀ q, q ≠ B → q ≠ B + 3 → (q < B + 3 ∨ B + 6 ≤ q) → wu wc B (ob 7 [.ref (B + 1), .ref (B + 3), .null, .null, .null, .int 0, .null]) q = wg q := fun q a b c => by rw [wu_ne _ _ a, q2 q (by omega), wu_ne _ _ (by omega)]
  refine v_gen (fun w' => (w' B = some (ob 7 [.ref (B + 1), .ref (B + 3), .null, .null, .null, .int 0, .null]) ∧ TO w' (B + 1) (fun _ => 0) 0 ∧ WO w' (B + 3) (fun _ => 0) 0 ∧ fr B 1017 w w')) ⟨wu_eq _ _ _, ⟨(e9 _ (by omega) (by omega) (by omega)).trans g2.1, (e9 _ (by omega) (by omega) (by omega)).trans g2.2.1, g2.2.2⟩, q1.fr (fun q a b => wu_ne _ _ (by omega)), fun q hq => ((e9 q (by omega) (by omega) (by omega)).trans (g3 q hq))⟩ (fun wg hwg => ?_)
  obtain ⟨g1, g2, g3, g4⟩ := hwg
  refine v_eqz (show B + 6 = _ by omega) ?_
  refine v_eqc (show 5 = _ by omega) (show 157 = _ by omega) ?_
  refine v_aload_n dX7_init_26 rfl ?_
  refine v_new (fs := [.null, .null, .null, .null, .null, .null, .int 0, .int 0, .int 0, .int 0, .int 0]) dX7_init_27 FTX4 cl_X7_23 insX4 iniX4 hnX4 (by omega) (by omega) ?_
  refine v_dup dX7_init_30 rfl ?_
  refine v_callI (As := []) oX4_init dX7_init_31 ml_X7_25 (c_X4init (wu_eq _ _ _)) rfl (by decide) (Nat.le_of_ble_eq_true rfl) (by omega) (by omega) (fun r' wc zz1 hq => ?_)
  obtain ⟨rfl, rfl, q1, q2⟩ := hq
  refine v_putF 2 dX7_init_34 FTX7 (by decide) rfl fl_X7_26 ((q2 _ (by omega)).trans ((wu_ne _ _ (by omega)).trans g1)) rfl rfl (Nat.le_of_ble_eq_true rfl) rfl rfl rfl ?_
  have e9 : ∀ q, q ≠ B → q ≠ B + 6 → (q < B + 6 ∨ B + 174 ≤ q) → wu wc B (ob 7 [.ref (B + 1), .ref (B + 3), .ref (B + 6), .null, .null, .int 0, .null]) q = wg q := fun q a b c => by rw [wu_ne _ _ a, q2 q (by omega), wu_ne _ _ (by omega)]
  refine v_gen (fun w' => (w' B = some (ob 7 [.ref (B + 1), .ref (B + 3), .ref (B + 6), .null, .null, .int 0, .null]) ∧ TO w' (B + 1) (fun _ => 0) 0 ∧ WO w' (B + 3) (fun _ => 0) 0 ∧ SR w' (B + 6) (in5 16) ∧ fr B 1017 w w')) ⟨wu_eq _ _ _, ⟨(e9 _ (by omega) (by omega) (by omega)).trans g2.1, (e9 _ (by omega) (by omega) (by omega)).trans g2.2.1, g2.2.2⟩, g3.fr (fun q a b => e9 q (by omega) (by omega) (by omega)), q1.fr (fun q a b => wu_ne _ _ (by omega)), fun q hq => ((e9 q (by omega) (by omega) (by omega)).trans (g4 q hq))⟩ (fun wg hwg => ?_)
  obtain ⟨g1, g2, g3, g4, g5⟩ := hwg
  refine v_eqz (show B + 174 = _ by omega) ?_
  refine v_eqc (show 173 = _ by omega) (show 4229 = _ by omega) ?_
  refine v_aload_n dX7_init_37 rfl ?_
  refine v_new (fs := [.null, .int 0, .int 0]) dX7_init_38 FTX0 cl_X7_30 insX0 iniX0 hnX0 (by omega) (by omega) ?_
  refine v_dup dX7_init_41 rfl ?_
  refine v_callI (As := []) oX0_init dX7_init_42 ml_X7_32 (c_X0init (wu_eq _ _ _)) rfl (by decide) (Nat.le_of_ble_eq_true rfl) (by omega) (by omega) (fun r' wc zz1 hq => ?_)
  obtain ⟨rfl, rfl, q1, q2⟩ := hq
  refine v_putF 3 dX7_init_45 FTX7 (by decide) rfl fl_X7_33 ((q2 _ (by omega)).trans ((wu_ne _ _ (by omega)).trans g1)) rfl rfl (Nat.le_of_ble_eq_true rfl) rfl rfl rfl ?_
  have e9 : ∀ q, q ≠ B → q ≠ B + 174 → (q < B + 174 ∨ B + 848 ≤ q) → wu wc B (ob 7 [.ref (B + 1), .ref (B + 3), .ref (B + 6), .ref (B + 174), .null, .int 0, .null]) q = wg q := fun q a b c => by rw [wu_ne _ _ a, q2 q (by omega), wu_ne _ _ (by omega)]
  refine v_gen (fun w' => (w' B = some (ob 7 [.ref (B + 1), .ref (B + 3), .ref (B + 6), .ref (B + 174), .null, .int 0, .null]) ∧ TO w' (B + 1) (fun _ => 0) 0 ∧ WO w' (B + 3) (fun _ => 0) 0 ∧ SR w' (B + 6) (in5 16) ∧ HR w' (B + 174) 0 0 (fun _ => in5 16) ∧ fr B 1017 w w')) ⟨wu_eq _ _ _, ⟨(e9 _ (by omega) (by omega) (by omega)).trans g2.1, (e9 _ (by omega) (by omega) (by omega)).trans g2.2.1, g2.2.2⟩, g3.fr (fun q a b => e9 q (by omega) (by omega) (by omega)), g4.fr (fun q a b => e9 q (by omega) (by omega) (by omega)), q1.fr (fun q a b => wu_ne _ _ (by omega)), fun q hq => ((e9 q (by omega) (by omega) (by omega)).trans (g5 q hq))⟩ (fun wg hwg => ?_)
  obtain ⟨g1, g2, g3, g4, g5, g6⟩ := hwg
  refine v_eqz (show B + 848 = _ by omega) ?_
  refine v_eqc (show 847 = _ by omega) (show 20524 = _ by omega) ?_
  refine v_aload_n dX7_init_48 rfl ?_
  refine v_new (fs := [.null, .null, .null, .null, .null, .null, .int 0, .int 0, .int 0, .int 0, .int 0]) dX7_init_49 FTX4 cl_X7_23 insX4 iniX4 hnX4 (by omega) (by omega) ?_
  refine v_dup dX7_init_52 rfl ?_
  refine v_callI (As := []) oX4_init dX7_init_53 ml_X7_25 (c_X4init (wu_eq _ _ _)) rfl (by decide) (Nat.le_of_ble_eq_true rfl) (by omega) (by omega) (fun r' wc zz1 hq => ?_)
  obtain ⟨rfl, rfl, q1, q2⟩ := hq
  refine v_putF 4 dX7_init_56 FTX7 (by decide) rfl fl_X7_37 ((q2 _ (by omega)).trans ((wu_ne _ _ (by omega)).trans g1)) rfl rfl (Nat.le_of_ble_eq_true rfl) rfl rfl rfl ?_
  have e9 : ∀ q, q ≠ B → q ≠ B + 848 → (q < B + 848 ∨ B + 1016 ≤ q) → wu wc B (ob 7 [.ref (B + 1), .ref (B + 3), .ref (B + 6), .ref (B + 174), .ref (B + 848), .int 0, .null]) q = wg q := fun q a b c => by rw [wu_ne _ _ a, q2 q (by omega), wu_ne _ _ (by omega)]
  refine v_gen (fun w' => (w' B = some (ob 7 [.ref (B + 1), .ref (B + 3), .ref (B + 6), .ref (B + 174), .ref (B + 848), .int 0, .null]) ∧ TO w' (B + 1) (fun _ => 0) 0 ∧ WO w' (B + 3) (fun _ => 0) 0 ∧ SR w' (B + 6) (in5 16) ∧ HR w' (B + 174) 0 0 (fun _ => in5 16) ∧ SR w' (B + 848) (in5 16) ∧ fr B 1017 w w')) ⟨wu_eq _ _ _, ⟨(e9 _ (by omega) (by omega) (by omega)).trans g2.1, (e9 _ (by omega) (by omega) (by omega)).trans g2.2.1, g2.2.2⟩, g3.fr (fun q a b => e9 q (by omega) (by omega) (by omega)), g4.fr (fun q a b => e9 q (by omega) (by omega) (by omega)), g5.fr (fun q a b => e9 q (by omega) (by omega) (by omega)), q1.fr (fun q a b => wu_ne _ _ (by omega)), fun q hq => ((e9 q (by omega) (by omega) (by omega)).trans (g6 q hq))⟩ (fun wg hwg => ?_)
  obtain ⟨g1, g2, g3, g4, g5, g6, g7⟩ := hwg
  refine v_eqz (show B + 1016 = _ by omega) ?_
  refine v_eqc (show 1015 = _ by omega) (show 24596 = _ by omega) ?_
  refine v_aload_n dX7_init_59 rfl ?_
  refine v_iconst (v := nI 0) dX7_init_60 (by decide) ?_
  refine v_put 5 dX7_init_61 FTX7 (by decide) rfl fl_X7_40 g1 rfl rfl (Nat.le_of_ble_eq_true rfl) rfl ?_
  refine v_aload_n dX7_init_64 rfl ?_
  refine v_bipush (v := nI 31) dX7_init_65 (by decide) ?_
  refine v_newarr (t := 1) (by decide) dX7_init_67 rfl (by decide) (by omega) (by omega) ?_
  refine v_putF 6 dX7_init_69 FTX7 (by decide) rfl fl_X7_44 ((wu_ne _ _ (by omega)).trans (wu_eq _ _ _)) rfl rfl (Nat.le_of_ble_eq_true rfl) rfl rfl rfl ?_
  refine v_ret dX7_init_72 rfl (by omega) (by omega) ?_
  have e9 : ∀ q, q ≠ B → q ≠ B + 1016 → wu (wu (wu wg B (ob 7 [.ref (B + 1), .ref (B + 3), .ref (B + 6), .ref (B + 174), .ref (B + 848), .int (nI 0), .null])) (B + 1016) (ia 1 31 (fun _ => 0))) B (ob 7 [.ref (B + 1), .ref (B + 3), .ref (B + 6), .ref (B + 174), .ref (B + 848), .int (nI 0), .ref (B + 1016)]) q = wg q := fun q a b => by rw [wu_ne _ _ a, wu_ne _ _ b, wu_ne _ _ a]
  refine ⟨rfl, by omega, ⟨0, _, _, ⟨wu_eq _ _ _, ⟨(e9 _ (by omega) (by omega)).trans g2.1, (e9 _ (by omega) (by omega)).trans g2.2.1, g2.2.2⟩, ⟨_, _, g3.fr (fun q a b => e9 q (by omega) (by omega))⟩, g4.fr (fun q a b => e9 q (by omega) (by omega)), g5.fr (fun q a b => e9 q (by omega) (by omega)), g6.fr (fun q a b => e9 q (by omega) (by omega)), _, (wu_ne _ _ (by omega)).trans (wu_eq _ _ _)⟩, fun j hj hj2 => by omega, fun z => by cases z⟩, fun q hq => (e9 q (by omega) (by omega)).trans (g7 q hq)⟩
