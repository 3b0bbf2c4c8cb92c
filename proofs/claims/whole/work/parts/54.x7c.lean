/-- what a writing method of the class leaves: its answer, and the reference's numbers -/
def CQ (w : Wd) (B : Nat) (k : Bool) (tx : Nat → Int32) (tn : Nat) (A : An) : Option Value → Wd → Prop := fun r' w' => r' = some (.int A.1) ∧ CR w' B A.2.2 A.2.1 k tx tn ∧ fr B 1017 w w'
theorem CQ.mk {w w' : Wd} {B n tn : Nat} {k : Bool} {x : Int32} {tx s : Nat → Int32} (h : CR w' B s n k tx tn) (f : fr B 1017 w w') : CQ w B k tx tn (x, n, s) (some (.int x)) w' := ⟨rfl, h, f⟩
set_option maxHeartbeats 1000000 in
set_option maxRecDepth 100000 in
theorem k_labelsWith_no {w : Wd} {B ns tn : Nat} {σ tx : Nat → Int32} {k : Bool} (h : CR w B σ ns k tx tn) (y : Int32) (hg : inB y 2 = false) : Wr mX7_labelsWith 6 [.ref B, .int y] w (fun r' w' => r' = some (.int (labelsWithI σ tx tn y)) ∧ CR w' B σ ns k tx tn ∧ fr B 1017 w w') := by
  intro sz
  refine Ev.ofV [some (.ref B), some (.int y), none] (by decide) (Nat.le_of_ble_eq_true rfl) rfl rfl rfl ?_
  have h00 := h
  obtain ⟨nx, hh, gk, hX, hG⟩ := h00
  have hXb := hX
  obtain ⟨x1, x2, ⟨f0, n0, x3⟩, x4, x5, x6, R0, x7⟩ := hXb
  have hS0 := x4
  obtain ⟨hB, ⟨n, π, κ, hRR⟩, hW, hI, hO⟩ := hS0
  have hBb := hB
  obtain ⟨s1, ⟨li, s2, s2b⟩, ⟨ak, s3, s3b⟩, ⟨ro, s4, s4b⟩, ⟨ac, s5, s5b⟩, ⟨lf, s6, s6b⟩, s7⟩ := hBb
  have hRb := hRR
  obtain ⟨⟨F, r1, r2, r3⟩, hK, hP, hS, hR⟩ := hRb
  have x5b := x5
  obtain ⟨⟨hf, v1, v2, v3⟩, hns, hnx, v4⟩ := x5b
  refine v_iload_n dX7_labelsWith_0 rfl ?_
  refine u_rS1 oX7_isTongue dX7_labelsWith_1 ml_X7_63 (c_isTongue y) (by decide) (Nat.le_of_ble_eq_true rfl) (Nat.le_refl _) (Nat.le_refl _) ?_
  refine v_if_neB (tgt := 9) dX7_labelsWith_4 (by decide) (fun b4 => ?_) (fun b4 => ?_)
  ·
    exact absurd hg (by rw [b4]; decide)
  ·
    refine v_iconst (v := -1) dX7_labelsWith_7 (by decide) ?_
    refine v_iret dX7_labelsWith_8 rfl (Nat.le_refl _) (Nat.le_refl _) ?_
    exact ⟨rfl, by unfold labelsWithI; rw [if_neg (by rw [hg]; decide)], h, fr.rf _ _ _⟩
set_option maxHeartbeats 1000000 in
set_option maxRecDepth 100000 in
theorem k_labelsWithN {w : Wd} {B ns tn : Nat} {σ tx : Nat → Int32} {k : Bool} (h : CR w B σ ns k tx tn) (b : Nat) (hb : b < 3) : Wr mX7_labelsWith 6 [.ref B, .int (nI b)] w (fun r' w' => r' = some (.int (labelsWithI σ tx tn (nI b))) ∧ CR w' B σ ns k tx tn ∧ fr B 1017 w w') := by
  intro sz
  refine Ev.ofV [some (.ref B), some (.int (nI b)), none] (by decide) (Nat.le_of_ble_eq_true rfl) rfl rfl rfl ?_
  have h00 := h
  obtain ⟨nx, hh, gk, hX, hG⟩ := h00
  have hXb := hX
  obtain ⟨x1, x2, ⟨f0, n0, x3⟩, x4, x5, x6, R0, x7⟩ := hXb
  have hS0 := x4
  obtain ⟨hB, ⟨n, π, κ, hRR⟩, hW, hI, hO⟩ := hS0
  have hBb := hB
  obtain ⟨s1, ⟨li, s2, s2b⟩, ⟨ak, s3, s3b⟩, ⟨ro, s4, s4b⟩, ⟨ac, s5, s5b⟩, ⟨lf, s6, s6b⟩, s7⟩ := hBb
  have hRb := hRR
  obtain ⟨⟨F, r1, r2, r3⟩, hK, hP, hS, hR⟩ := hRb
  have x5b := x5
  obtain ⟨⟨hf, v1, v2, v3⟩, hns, hnx, v4⟩ := x5b
  have hgb : inB (nI b) 2 = true := by rw [inB_nI (by omega) (by omega)]; simp; omega
  refine v_iload_n dX7_labelsWith_0 rfl ?_
  refine u_rS1 oX7_isTongue dX7_labelsWith_1 ml_X7_63 (c_isTongue (nI b)) (by decide) (Nat.le_of_ble_eq_true rfl) (Nat.le_refl _) (Nat.le_refl _) ?_
  refine v_if_neB (tgt := 9) dX7_labelsWith_4 (by decide) (fun b4 => ?_) (fun b4 => ?_)
  ·
    refine v_aload_n dX7_labelsWith_9 rfl ?_
    refine v_wV0 oX7_readText dX7_labelsWith_10 ml_X7_241 (c_readText h) x1 (by decide) (Nat.le_of_ble_eq_true rfl) (Nat.le_refl _) (Nat.le_refl _) (fun r' w1 hq => ?_)
    rcases hq with ⟨q1, rfl, q3, q4, q5, q6⟩ | ⟨q1, rfl, rfl⟩
    · have q5b := q5
      obtain ⟨ny, hy, gy, ⟨y1, y2, y3, y4, y5⟩, -⟩ := q5b
      refine v_istore_n dX7_labelsWith_13 (by decide) rfl ?_
      refine v_iload_n dX7_labelsWith_14 rfl ?_
      refine v_if_neN (tgt := 33) dX7_labelsWith_15 (by decide) (by decide) (fun z => absurd z (by decide)) (fun _ => ?_)
      refine v_aload_n dX7_labelsWith_18 rfl ?_
      refine v_get 2 dX7_labelsWith_19 FTX7 (by decide) rfl fl_X7_26 y1 rfl ?_
      refine v_iload_n dX7_labelsWith_22 rfl ?_
      refine v_aload_n dX7_labelsWith_23 rfl ?_
      refine v_get 1 dX7_labelsWith_24 FTX7 (by decide) rfl fl_X7_19 y1 rfl ?_
      refine u_rV2 oX4_labelsSharing dX7_labelsWith_27 ml_X7_244 (c_labelsSharing y4 q4 q3 b hb) y4.1.1 (by decide) (Nat.le_of_ble_eq_true rfl) (Nat.le_refl _) (Nat.le_refl _) ?_
      refine v_goto (tgt := 34) dX7_labelsWith_30 (by decide) ?_
      refine v_iret dX7_labelsWith_34 rfl (Nat.le_refl _) (Nat.le_refl _) ?_
      exact ⟨rfl, by unfold labelsWithI; rw [if_pos hgb, if_pos q1, nt_nI (n := b) (by omega)], q5, q6.mono (by omega) (by omega)⟩
    ·
      refine v_istore_n dX7_labelsWith_13 (by decide) rfl ?_
      refine v_iload_n dX7_labelsWith_14 rfl ?_
      refine v_if_ne (tgt := 33) dX7_labelsWith_15 (by decide) (fun b15 => ?_) (fun b15 => ?_)
      ·
        refine v_iload_n dX7_labelsWith_33 rfl ?_
        refine v_iret dX7_labelsWith_34 rfl (Nat.le_refl _) (Nat.le_refl _) ?_
        exact ⟨rfl, by unfold labelsWithI; rw [if_pos hgb, if_neg q1], h, fr.rf _ _ _⟩
      ·
        exact absurd b15 (err_ne x2.2.2 q1)
  ·
    exact absurd hgb (by rw [b4]; decide)
theorem k_labelsWith {w : Wd} {B ns tn : Nat} {σ tx : Nat → Int32} {k : Bool} (h : CR w B σ ns k tx tn) (y : Int32) : Wr mX7_labelsWith 6 [.ref B, .int y] w (fun r' w' => r' = some (.int (labelsWithI σ tx tn y)) ∧ CR w' B σ ns k tx tn ∧ fr B 1017 w w') := by
  by_cases hg : inB y 2 = false
  · exact k_labelsWith_no h y hg
  have hy := inB_ub (by omega) (bfalse hg)
  rw [hy.1]
  exact k_labelsWithN h (nt y) hy.2
theorem plO_none {g : Nat → Int32} {x : Int32} (h : plO g x = none) {n : Nat} {κ : Nat → Nat} (hK : KR g n κ) : ∀ i, i < n → ¬ g (1808 + 65 * κ i) = x := by
  intro i hi e
  have hk := hK.2.1 i hi
  have h1 : (decide (0 ≤ x) && g (1808 + 65 * κ i) == x) = false := lsO_none h (κ i) hk.1
  rw [e] at hk h1
  rw [decide_eq_true hk.2] at h1
  simp at h1
theorem plO_row {g : Nat → Int32} {x : Int32} {k : Nat} (h : plO g x = some k) {n : Nat} {κ : Nat → Nat} (hK : KR g n κ) : ∃ i, i < n ∧ κ i = k := by
  have hp := plO_some h
  exact hK.2.2.2 k hp.1 (by rw [hp.2.2]; exact hp.2.1)
theorem CR_cr {w : Wd} {B : Nat} {σ : Nat → Int32} {ns tn : Nat} {k : Bool} {tx R : Nat → Int32} (h : CR w B σ ns k tx tn) : CR (wu w (B + 1016) (ia 1 31 R)) B σ ns k tx tn := by
  obtain ⟨nx, hh, gk, ⟨h1, ⟨a1, a2, a3⟩, ⟨f, n, h3⟩, h4, h5, h6, -⟩, g⟩ := h
  have e : ∀ q, q ≠ B + 1016 → wu w (B + 1016) (ia 1 31 R) q = w q := fun q hq => wu_ne _ _ hq
  exact ⟨nx, hh, gk, ⟨(e _ (by omega)).trans h1, ⟨(e _ (by omega)).trans a1, (e _ (by omega)).trans a2, a3⟩, ⟨f, n, h3.fr (fun q a b => e q (by omega))⟩, h4.fr (fun q a b => e q (by omega)), h5.fr (fun q a b => e q (by omega)), h6.fr (fun q a b => e q (by omega)), R, wu_eq _ _ _⟩, g⟩
set_option maxHeartbeats 1000000 in
set_option maxRecDepth 100000 in
theorem k_rewriteOf_no {w : Wd} {B ns tn : Nat} {σ tx : Nat → Int32} {k : Bool} (h : CR w B σ ns k tx tn) (x z : Int32) (hp : plO σ x = none) : Wr mX7_rewriteOf 6 [.ref B, .int x, .int z] w (fun r' w' => r' = some (.int (rewriteOfI σ x z)) ∧ CR w' B σ ns k tx tn ∧ fr B 1017 w w') := by
  intro sz
  refine Ev.ofV [some (.ref B), some (.int x), some (.int z), none] (by decide) (Nat.le_of_ble_eq_true rfl) rfl rfl rfl ?_
  have h00 := h
  obtain ⟨nx, hh, gk, hX, hG⟩ := h00
  have hXb := hX
  obtain ⟨x1, x2, ⟨f0, n0, x3⟩, x4, x5, x6, R0, x7⟩ := hXb
  have hS0 := x4
  obtain ⟨hB, ⟨n, π, κ, hRR⟩, hW, hI, hO⟩ := hS0
  have hBb := hB
  obtain ⟨s1, ⟨li, s2, s2b⟩, ⟨ak, s3, s3b⟩, ⟨ro, s4, s4b⟩, ⟨ac, s5, s5b⟩, ⟨lf, s6, s6b⟩, s7⟩ := hBb
  have hRb := hRR
  obtain ⟨⟨F, r1, r2, r3⟩, hK, hP, hS, hR⟩ := hRb
  have x5b := x5
  obtain ⟨⟨hf, v1, v2, v3⟩, hns, hnx, v4⟩ := x5b
  refine v_aload_n dX7_rewriteOf_0 rfl ?_
  refine v_get 2 dX7_rewriteOf_1 FTX7 (by decide) rfl fl_X7_26 x1 rfl ?_
  refine v_get 5 dX7_rewriteOf_4 FTX4 (by decide) rfl fl_X7_131 s1 rfl ?_
  refine v_iload_n dX7_rewriteOf_7 rfl ?_
  refine u_rV1 oX3_withNumber dX7_rewriteOf_8 ml_X7_144 (c_withN hRR x (plO_none hp hK)) r1 (by decide) (Nat.le_of_ble_eq_true rfl) (Nat.le_refl _) (Nat.le_refl _) ?_
  refine v_astore_nN dX7_rewriteOf_11 (by decide) rfl ?_
  refine v_aload_nN dX7_rewriteOf_12 rfl ?_
  refine v_ifnonnullN dX7_rewriteOf_13 ?_
  refine v_iconst (v := -1) dX7_rewriteOf_16 (by decide) ?_
  refine v_iret dX7_rewriteOf_17 rfl (Nat.le_refl _) (Nat.le_refl _) ?_
  exact ⟨rfl, by unfold rewriteOfI; rw [hp], h, fr.rf _ _ _⟩
set_option maxHeartbeats 1000000 in
set_option maxRecDepth 100000 in
theorem k_rewriteOf_out {w : Wd} {B ns tn : Nat} {σ tx : Nat → Int32} {k : Bool} (h : CR w B σ ns k tx tn) (x z : Int32) (j : Nat) (hp : plO σ x = some j) (hz : inB z 7 = false) : Wr mX7_rewriteOf 6 [.ref B, .int x, .int z] w (fun r' w' => r' = some (.int (rewriteOfI σ x z)) ∧ CR w' B σ ns k tx tn ∧ fr B 1017 w w') := by
  intro sz
  refine Ev.ofV [some (.ref B), some (.int x), some (.int z), none] (by decide) (Nat.le_of_ble_eq_true rfl) rfl rfl rfl ?_
  have h00 := h
  obtain ⟨nx, hh, gk, hX, hG⟩ := h00
  have hXb := hX
  obtain ⟨x1, x2, ⟨f0, n0, x3⟩, x4, x5, x6, R0, x7⟩ := hXb
  have hS0 := x4
  obtain ⟨hB, ⟨n, π, κ, hRR⟩, hW, hI, hO⟩ := hS0
  have hBb := hB
  obtain ⟨s1, ⟨li, s2, s2b⟩, ⟨ak, s3, s3b⟩, ⟨ro, s4, s4b⟩, ⟨ac, s5, s5b⟩, ⟨lf, s6, s6b⟩, s7⟩ := hBb
  have hRb := hRR
  obtain ⟨⟨F, r1, r2, r3⟩, hK, hP, hS, hR⟩ := hRb
  have x5b := x5
  obtain ⟨⟨hf, v1, v2, v3⟩, hns, hnx, v4⟩ := x5b
  obtain ⟨i, hi, ek⟩ := plO_row hp hK
  have hps := plO_some hp
  have hps2 : σ (1808 + 65 * κ i) = x := by rw [ek]; exact hps.2.2
  obtain ⟨Vt, hr, hVt, hbt⟩ := hR i hi
  have hki := hK.2.1 i hi
  have hrw := hW.rw hki.1 hki.2
  have hpb := hrw.2.1.2
  refine v_aload_n dX7_rewriteOf_0 rfl ?_
  refine v_get 2 dX7_rewriteOf_1 FTX7 (by decide) rfl fl_X7_26 x1 rfl ?_
  refine v_get 5 dX7_rewriteOf_4 FTX4 (by decide) rfl fl_X7_131 s1 rfl ?_
  refine v_iload_n dX7_rewriteOf_7 rfl ?_
  refine u_rV1 oX3_withNumber dX7_rewriteOf_8 ml_X7_144 (c_withS hRR x i hi hps2) r1 (by decide) (Nat.le_of_ble_eq_true rfl) (Nat.le_refl _) (Nat.le_refl _) ?_
  refine v_astore_n dX7_rewriteOf_11 (by decide) rfl ?_
  refine v_aload_n dX7_rewriteOf_12 rfl ?_
  refine v_ifnonnull (tgt := 18) dX7_rewriteOf_13 (by decide) ?_
  refine v_iload_n dX7_rewriteOf_18 rfl ?_
  refine v_tableOut (tgt := 149) dX7_rewriteOf_19 (inB_out (b := 7) (by omega) hz) (by decide) ?_
  refine v_bipush (v := -2) dX7_rewriteOf_149 (by decide) ?_
  refine v_iret dX7_rewriteOf_151 rfl (Nat.le_refl _) (Nat.le_refl _) ?_
  exact ⟨rfl, by unfold rewriteOfI; rw [hp]; show some (Value.int (-2)) = some (Value.int (if _ then _ else _)); rw [if_neg (by rw [hz]; decide)], h, fr.rf _ _ _⟩
set_option maxHeartbeats 1000000 in
set_option maxRecDepth 100000 in
theorem k_rewriteOf0 {w : Wd} {B ns tn : Nat} {σ tx : Nat → Int32} {k : Bool} (h : CR w B σ ns k tx tn) (x : Int32) (j : Nat) (hp : plO σ x = some j) : Wr mX7_rewriteOf 6 [.ref B, .int x, .int (nI 0)] w (fun r' w' => r' = some (.int (rewriteOfI σ x (nI 0))) ∧ CR w' B σ ns k tx tn ∧ fr B 1017 w w') := by
  intro sz
  refine Ev.ofV [some (.ref B), some (.int x), some (.int (nI 0)), none] (by decide) (Nat.le_of_ble_eq_true rfl) rfl rfl rfl ?_
  have h00 := h
  obtain ⟨nx, hh, gk, hX, hG⟩ := h00
  have hXb := hX
  obtain ⟨x1, x2, ⟨f0, n0, x3⟩, x4, x5, x6, R0, x7⟩ := hXb
  have hS0 := x4
  obtain ⟨hB, ⟨n, π, κ, hRR⟩, hW, hI, hO⟩ := hS0
  have hBb := hB
  obtain ⟨s1, ⟨li, s2, s2b⟩, ⟨ak, s3, s3b⟩, ⟨ro, s4, s4b⟩, ⟨ac, s5, s5b⟩, ⟨lf, s6, s6b⟩, s7⟩ := hBb
  have hRb := hRR
  obtain ⟨⟨F, r1, r2, r3⟩, hK, hP, hS, hR⟩ := hRb
  have x5b := x5
  obtain ⟨⟨hf, v1, v2, v3⟩, hns, hnx, v4⟩ := x5b
  obtain ⟨i, hi, ek⟩ := plO_row hp hK
  have hps := plO_some hp
  have hps2 : σ (1808 + 65 * κ i) = x := by rw [ek]; exact hps.2.2
  obtain ⟨Vt, hr, hVt, hbt⟩ := hR i hi
  have hki := hK.2.1 i hi
  have hrw := hW.rw hki.1 hki.2
  have hpb := hrw.2.1.2
  have eI : rewriteOfI σ x (nI 0) = rwO σ (κ i) x 0 := by
    unfold rewriteOfI
    rw [hp, ek]
    show (if inB (nI 0) 7 = true then rwO σ j x (nt (nI 0)) else -2) = _
    rw [if_pos (by decide), nt_nI (n := 0) (by omega)]
  refine v_aload_n dX7_rewriteOf_0 rfl ?_
  refine v_get 2 dX7_rewriteOf_1 FTX7 (by decide) rfl fl_X7_26 x1 rfl ?_
  refine v_get 5 dX7_rewriteOf_4 FTX4 (by decide) rfl fl_X7_131 s1 rfl ?_
  refine v_iload_n dX7_rewriteOf_7 rfl ?_
  refine u_rV1 oX3_withNumber dX7_rewriteOf_8 ml_X7_144 (c_withS hRR x i hi hps2) r1 (by decide) (Nat.le_of_ble_eq_true rfl) (Nat.le_refl _) (Nat.le_refl _) ?_
  refine v_astore_n dX7_rewriteOf_11 (by decide) rfl ?_
  refine v_aload_n dX7_rewriteOf_12 rfl ?_
  refine v_ifnonnull (tgt := 18) dX7_rewriteOf_13 (by decide) ?_
  refine v_iload_n dX7_rewriteOf_18 rfl ?_
  refine v_tableIn (tgt := 64) (off := 45) dX7_rewriteOf_19 (by decide) (by decide) (by decide) (by decide) ?_
  refine v_aload_n dX7_rewriteOf_64 rfl ?_
  refine v_get 2 dX7_rewriteOf_65 FTX2 (by decide) rfl fl_X7_156 hr.1 rfl ?_
  refine v_iconst (v := nI 3) dX7_rewriteOf_68 (by decide) ?_
  refine v_idiv dX7_rewriteOf_69 (by decide) ?_
  refine v_iret dX7_rewriteOf_70 rfl (Nat.le_refl _) (Nat.le_refl _) ?_
  exact ⟨rfl, by rw [eI]; rfl, h, fr.rf _ _ _⟩
set_option maxHeartbeats 1000000 in
set_option maxRecDepth 100000 in
theorem k_rewriteOf1 {w : Wd} {B ns tn : Nat} {σ tx : Nat → Int32} {k : Bool} (h : CR w B σ ns k tx tn) (x : Int32) (j : Nat) (hp : plO σ x = some j) : Wr mX7_rewriteOf 6 [.ref B, .int x, .int (nI 1)] w (fun r' w' => r' = some (.int (rewriteOfI σ x (nI 1))) ∧ CR w' B σ ns k tx tn ∧ fr B 1017 w w') := by
  intro sz
  refine Ev.ofV [some (.ref B), some (.int x), some (.int (nI 1)), none] (by decide) (Nat.le_of_ble_eq_true rfl) rfl rfl rfl ?_
  have h00 := h
  obtain ⟨nx, hh, gk, hX, hG⟩ := h00
  have hXb := hX
  obtain ⟨x1, x2, ⟨f0, n0, x3⟩, x4, x5, x6, R0, x7⟩ := hXb
  have hS0 := x4
  obtain ⟨hB, ⟨n, π, κ, hRR⟩, hW, hI, hO⟩ := hS0
  have hBb := hB
  obtain ⟨s1, ⟨li, s2, s2b⟩, ⟨ak, s3, s3b⟩, ⟨ro, s4, s4b⟩, ⟨ac, s5, s5b⟩, ⟨lf, s6, s6b⟩, s7⟩ := hBb
  have hRb := hRR
  obtain ⟨⟨F, r1, r2, r3⟩, hK, hP, hS, hR⟩ := hRb
  have x5b := x5
  obtain ⟨⟨hf, v1, v2, v3⟩, hns, hnx, v4⟩ := x5b
  obtain ⟨i, hi, ek⟩ := plO_row hp hK
  have hps := plO_some hp
  have hps2 : σ (1808 + 65 * κ i) = x := by rw [ek]; exact hps.2.2
  obtain ⟨Vt, hr, hVt, hbt⟩ := hR i hi
  have hki := hK.2.1 i hi
  have hrw := hW.rw hki.1 hki.2
  have hpb := hrw.2.1.2
  have eI : rewriteOfI σ x (nI 1) = rwO σ (κ i) x 1 := by
    unfold rewriteOfI
    rw [hp, ek]
    show (if inB (nI 1) 7 = true then rwO σ j x (nt (nI 1)) else -2) = _
    rw [if_pos (by decide), nt_nI (n := 1) (by omega)]
  refine v_aload_n dX7_rewriteOf_0 rfl ?_
  refine v_get 2 dX7_rewriteOf_1 FTX7 (by decide) rfl fl_X7_26 x1 rfl ?_
  refine v_get 5 dX7_rewriteOf_4 FTX4 (by decide) rfl fl_X7_131 s1 rfl ?_
  refine v_iload_n dX7_rewriteOf_7 rfl ?_
  refine u_rV1 oX3_withNumber dX7_rewriteOf_8 ml_X7_144 (c_withS hRR x i hi hps2) r1 (by decide) (Nat.le_of_ble_eq_true rfl) (Nat.le_refl _) (Nat.le_refl _) ?_
  refine v_astore_n dX7_rewriteOf_11 (by decide) rfl ?_
  refine v_aload_n dX7_rewriteOf_12 rfl ?_
  refine v_ifnonnull (tgt := 18) dX7_rewriteOf_13 (by decide) ?_
  refine v_iload_n dX7_rewriteOf_18 rfl ?_
  refine v_tableIn (tgt := 71) (off := 52) dX7_rewriteOf_19 (by decide) (by decide) (by decide) (by decide) ?_
  refine v_aload_n dX7_rewriteOf_71 rfl ?_
  refine v_get 2 dX7_rewriteOf_72 FTX2 (by decide) rfl fl_X7_156 hr.1 rfl ?_
  refine v_iconst (v := nI 3) dX7_rewriteOf_75 (by decide) ?_
  refine v_irem dX7_rewriteOf_76 (by decide) ?_
  refine v_iret dX7_rewriteOf_77 rfl (Nat.le_refl _) (Nat.le_refl _) ?_
  exact ⟨rfl, by rw [eI]; rfl, h, fr.rf _ _ _⟩
set_option maxHeartbeats 1000000 in
set_option maxRecDepth 100000 in
theorem k_rewriteOf2 {w : Wd} {B ns tn : Nat} {σ tx : Nat → Int32} {k : Bool} (h : CR w B σ ns k tx tn) (x : Int32) (j : Nat) (hp : plO σ x = some j) : Wr mX7_rewriteOf 6 [.ref B, .int x, .int (nI 2)] w (fun r' w' => r' = some (.int (rewriteOfI σ x (nI 2))) ∧ CR w' B σ ns k tx tn ∧ fr B 1017 w w') := by
  intro sz
  refine Ev.ofV [some (.ref B), some (.int x), some (.int (nI 2)), none] (by decide) (Nat.le_of_ble_eq_true rfl) rfl rfl rfl ?_
  have h00 := h
  obtain ⟨nx, hh, gk, hX, hG⟩ := h00
  have hXb := hX
  obtain ⟨x1, x2, ⟨f0, n0, x3⟩, x4, x5, x6, R0, x7⟩ := hXb
  have hS0 := x4
  obtain ⟨hB, ⟨n, π, κ, hRR⟩, hW, hI, hO⟩ := hS0
  have hBb := hB
  obtain ⟨s1, ⟨li, s2, s2b⟩, ⟨ak, s3, s3b⟩, ⟨ro, s4, s4b⟩, ⟨ac, s5, s5b⟩, ⟨lf, s6, s6b⟩, s7⟩ := hBb
  have hRb := hRR
  obtain ⟨⟨F, r1, r2, r3⟩, hK, hP, hS, hR⟩ := hRb
  have x5b := x5
  obtain ⟨⟨hf, v1, v2, v3⟩, hns, hnx, v4⟩ := x5b
  obtain ⟨i, hi, ek⟩ := plO_row hp hK
  have hps := plO_some hp
  have hps2 : σ (1808 + 65 * κ i) = x := by rw [ek]; exact hps.2.2
  obtain ⟨Vt, hr, hVt, hbt⟩ := hR i hi
  have hki := hK.2.1 i hi
  have hrw := hW.rw hki.1 hki.2
  have hpb := hrw.2.1.2
  have eI : rewriteOfI σ x (nI 2) = rwO σ (κ i) x 2 := by
    unfold rewriteOfI
    rw [hp, ek]
    show (if inB (nI 2) 7 = true then rwO σ j x (nt (nI 2)) else -2) = _
    rw [if_pos (by decide), nt_nI (n := 2) (by omega)]
  refine v_aload_n dX7_rewriteOf_0 rfl ?_
  refine v_get 2 dX7_rewriteOf_1 FTX7 (by decide) rfl fl_X7_26 x1 rfl ?_
  refine v_get 5 dX7_rewriteOf_4 FTX4 (by decide) rfl fl_X7_131 s1 rfl ?_
  refine v_iload_n dX7_rewriteOf_7 rfl ?_
  refine u_rV1 oX3_withNumber dX7_rewriteOf_8 ml_X7_144 (c_withS hRR x i hi hps2) r1 (by decide) (Nat.le_of_ble_eq_true rfl) (Nat.le_refl _) (Nat.le_refl _) ?_
  refine v_astore_n dX7_rewriteOf_11 (by decide) rfl ?_
  refine v_aload_n dX7_rewriteOf_12 rfl ?_
  refine v_ifnonnull (tgt := 18) dX7_rewriteOf_13 (by decide) ?_
  refine v_iload_n dX7_rewriteOf_18 rfl ?_
  refine v_tableIn (tgt := 78) (off := 59) dX7_rewriteOf_19 (by decide) (by decide) (by decide) (by decide) ?_
  refine v_aload_n dX7_rewriteOf_78 rfl ?_
  refine v_get 3 dX7_rewriteOf_79 FTX2 (by decide) rfl fl_X7_148 hr.1 rfl ?_
  refine v_iret dX7_rewriteOf_82 rfl (Nat.le_refl _) (Nat.le_refl _) ?_
  exact ⟨rfl, by rw [eI]; rfl, h, fr.rf _ _ _⟩
set_option maxHeartbeats 1000000 in
set_option maxRecDepth 100000 in
theorem k_rewriteOf3 {w : Wd} {B ns tn : Nat} {σ tx : Nat → Int32} {k : Bool} (h : CR w B σ ns k tx tn) (x : Int32) (j : Nat) (hp : plO σ x = some j) : Wr mX7_rewriteOf 6 [.ref B, .int x, .int (nI 3)] w (fun r' w' => r' = some (.int (rewriteOfI σ x (nI 3))) ∧ CR w' B σ ns k tx tn ∧ fr B 1017 w w') := by
  intro sz
  refine Ev.ofV [some (.ref B), some (.int x), some (.int (nI 3)), none] (by decide) (Nat.le_of_ble_eq_true rfl) rfl rfl rfl ?_
  have h00 := h
  obtain ⟨nx, hh, gk, hX, hG⟩ := h00
  have hXb := hX
  obtain ⟨x1, x2, ⟨f0, n0, x3⟩, x4, x5, x6, R0, x7⟩ := hXb
  have hS0 := x4
  obtain ⟨hB, ⟨n, π, κ, hRR⟩, hW, hI, hO⟩ := hS0
  have hBb := hB
  obtain ⟨s1, ⟨li, s2, s2b⟩, ⟨ak, s3, s3b⟩, ⟨ro, s4, s4b⟩, ⟨ac, s5, s5b⟩, ⟨lf, s6, s6b⟩, s7⟩ := hBb
  have hRb := hRR
  obtain ⟨⟨F, r1, r2, r3⟩, hK, hP, hS, hR⟩ := hRb
  have x5b := x5
  obtain ⟨⟨hf, v1, v2, v3⟩, hns, hnx, v4⟩ := x5b
  obtain ⟨i, hi, ek⟩ := plO_row hp hK
  have hps := plO_some hp
  have hps2 : σ (1808 + 65 * κ i) = x := by rw [ek]; exact hps.2.2
  obtain ⟨Vt, hr, hVt, hbt⟩ := hR i hi
  have hki := hK.2.1 i hi
  have hrw := hW.rw hki.1 hki.2
  have hpb := hrw.2.1.2
  have eI : rewriteOfI σ x (nI 3) = rwO σ (κ i) x 3 := by
    unfold rewriteOfI
    rw [hp, ek]
    show (if inB (nI 3) 7 = true then rwO σ j x (nt (nI 3)) else -2) = _
    rw [if_pos (by decide), nt_nI (n := 3) (by omega)]
  refine v_aload_n dX7_rewriteOf_0 rfl ?_
  refine v_get 2 dX7_rewriteOf_1 FTX7 (by decide) rfl fl_X7_26 x1 rfl ?_
  refine v_get 5 dX7_rewriteOf_4 FTX4 (by decide) rfl fl_X7_131 s1 rfl ?_
  refine v_iload_n dX7_rewriteOf_7 rfl ?_
  refine u_rV1 oX3_withNumber dX7_rewriteOf_8 ml_X7_144 (c_withS hRR x i hi hps2) r1 (by decide) (Nat.le_of_ble_eq_true rfl) (Nat.le_refl _) (Nat.le_refl _) ?_
  refine v_astore_n dX7_rewriteOf_11 (by decide) rfl ?_
  refine v_aload_n dX7_rewriteOf_12 rfl ?_
  refine v_ifnonnull (tgt := 18) dX7_rewriteOf_13 (by decide) ?_
  refine v_iload_n dX7_rewriteOf_18 rfl ?_
  refine v_tableIn (tgt := 83) (off := 64) dX7_rewriteOf_19 (by decide) (by decide) (by decide) (by decide) ?_
  refine v_aload_n dX7_rewriteOf_83 rfl ?_
  refine v_get 0 dX7_rewriteOf_84 FTX2 (by decide) rfl fl_X7_198 hr.1 rfl ?_
  refine v_get 3 dX7_rewriteOf_87 FTX6 (by decide) rfl fl_X7_115 hr.2.at rfl ?_
  refine v_iret dX7_rewriteOf_90 rfl (Nat.le_refl _) (Nat.le_refl _) ?_
  exact ⟨rfl, by rw [eI]; rfl, h, fr.rf _ _ _⟩
set_option maxHeartbeats 1000000 in
set_option maxRecDepth 100000 in
theorem k_rewriteOf4 {w : Wd} {B ns tn : Nat} {σ tx : Nat → Int32} {k : Bool} (h : CR w B σ ns k tx tn) (x : Int32) (j : Nat) (hp : plO σ x = some j) : Wr mX7_rewriteOf 6 [.ref B, .int x, .int (nI 4)] w (fun r' w' => r' = some (.int (rewriteOfI σ x (nI 4))) ∧ CR w' B σ ns k tx tn ∧ fr B 1017 w w') := by
  intro sz
  refine Ev.ofV [some (.ref B), some (.int x), some (.int (nI 4)), none] (by decide) (Nat.le_of_ble_eq_true rfl) rfl rfl rfl ?_
  have h00 := h
  obtain ⟨nx, hh, gk, hX, hG⟩ := h00
  have hXb := hX
  obtain ⟨x1, x2, ⟨f0, n0, x3⟩, x4, x5, x6, R0, x7⟩ := hXb
  have hS0 := x4
  obtain ⟨hB, ⟨n, π, κ, hRR⟩, hW, hI, hO⟩ := hS0
  have hBb := hB
  obtain ⟨s1, ⟨li, s2, s2b⟩, ⟨ak, s3, s3b⟩, ⟨ro, s4, s4b⟩, ⟨ac, s5, s5b⟩, ⟨lf, s6, s6b⟩, s7⟩ := hBb
  have hRb := hRR
  obtain ⟨⟨F, r1, r2, r3⟩, hK, hP, hS, hR⟩ := hRb
  have x5b := x5
  obtain ⟨⟨hf, v1, v2, v3⟩, hns, hnx, v4⟩ := x5b
  obtain ⟨i, hi, ek⟩ := plO_row hp hK
  have hps := plO_some hp
  have hps2 : σ (1808 + 65 * κ i) = x := by rw [ek]; exact hps.2.2
  obtain ⟨Vt, hr, hVt, hbt⟩ := hR i hi
  have hki := hK.2.1 i hi
  have hrw := hW.rw hki.1 hki.2
  have hpb := hrw.2.1.2
  have eI : rewriteOfI σ x (nI 4) = rwO σ (κ i) x 4 := by
    unfold rewriteOfI
    rw [hp, ek]
    show (if inB (nI 4) 7 = true then rwO σ j x (nt (nI 4)) else -2) = _
    rw [if_pos (by decide), nt_nI (n := 4) (by omega)]
  refine v_aload_n dX7_rewriteOf_0 rfl ?_
  refine v_get 2 dX7_rewriteOf_1 FTX7 (by decide) rfl fl_X7_26 x1 rfl ?_
  refine v_get 5 dX7_rewriteOf_4 FTX4 (by decide) rfl fl_X7_131 s1 rfl ?_
  refine v_iload_n dX7_rewriteOf_7 rfl ?_
  refine u_rV1 oX3_withNumber dX7_rewriteOf_8 ml_X7_144 (c_withS hRR x i hi hps2) r1 (by decide) (Nat.le_of_ble_eq_true rfl) (Nat.le_refl _) (Nat.le_refl _) ?_
  refine v_astore_n dX7_rewriteOf_11 (by decide) rfl ?_
  refine v_aload_n dX7_rewriteOf_12 rfl ?_
  refine v_ifnonnull (tgt := 18) dX7_rewriteOf_13 (by decide) ?_
  refine v_iload_n dX7_rewriteOf_18 rfl ?_
  refine v_tableIn (tgt := 91) (off := 72) dX7_rewriteOf_19 (by decide) (by decide) (by decide) (by decide) ?_
  refine v_aload_n dX7_rewriteOf_91 rfl ?_
  refine u_rV0 oX2_votes dX7_rewriteOf_92 ml_X7_166 (c_votes hr hVt) hr.1 (by decide) (Nat.le_of_ble_eq_true rfl) (Nat.le_refl _) (Nat.le_refl _) ?_
  refine v_iret dX7_rewriteOf_95 rfl (Nat.le_refl _) (Nat.le_refl _) ?_
  exact ⟨rfl, by rw [eI]; show some (Value.int (nI (pcn Vt))) = some (Value.int (nI (vf σ x))); rw [RwR.vf (w := w) (a := B + 6 + 6 + 2 + 4 * π i) (V := Vt) ⟨hr, hVt, hbt⟩ hW hI hK.di hki.1 hki.2]; unfold vfk vf; rw [hps2], h, fr.rf _ _ _⟩
set_option maxHeartbeats 1000000 in
set_option maxRecDepth 100000 in
theorem k_rewriteOf5 {w : Wd} {B ns tn : Nat} {σ tx : Nat → Int32} {k : Bool} (h : CR w B σ ns k tx tn) (x : Int32) (j : Nat) (hp : plO σ x = some j) : Wr mX7_rewriteOf 6 [.ref B, .int x, .int (nI 5)] w (fun r' w' => r' = some (.int (rewriteOfI σ x (nI 5))) ∧ CR w' B σ ns k tx tn ∧ fr B 1017 w w') := by
  intro sz
  refine Ev.ofV [some (.ref B), some (.int x), some (.int (nI 5)), none] (by decide) (Nat.le_of_ble_eq_true rfl) rfl rfl rfl ?_
  have h00 := h
  obtain ⟨nx, hh, gk, hX, hG⟩ := h00
  have hXb := hX
  obtain ⟨x1, x2, ⟨f0, n0, x3⟩, x4, x5, x6, R0, x7⟩ := hXb
  have hS0 := x4
  obtain ⟨hB, ⟨n, π, κ, hRR⟩, hW, hI, hO⟩ := hS0
  have hBb := hB
  obtain ⟨s1, ⟨li, s2, s2b⟩, ⟨ak, s3, s3b⟩, ⟨ro, s4, s4b⟩, ⟨ac, s5, s5b⟩, ⟨lf, s6, s6b⟩, s7⟩ := hBb
  have hRb := hRR
  obtain ⟨⟨F, r1, r2, r3⟩, hK, hP, hS, hR⟩ := hRb
  have x5b := x5
  obtain ⟨⟨hf, v1, v2, v3⟩, hns, hnx, v4⟩ := x5b
  obtain ⟨i, hi, ek⟩ := plO_row hp hK
  have hps := plO_some hp
  have hps2 : σ (1808 + 65 * κ i) = x := by rw [ek]; exact hps.2.2
  obtain ⟨Vt, hr, hVt, hbt⟩ := hR i hi
  have hki := hK.2.1 i hi
  have hrw := hW.rw hki.1 hki.2
  have hpb := hrw.2.1.2
  have eI : rewriteOfI σ x (nI 5) = rwO σ (κ i) x 5 := by
    unfold rewriteOfI
    rw [hp, ek]
    show (if inB (nI 5) 7 = true then rwO σ j x (nt (nI 5)) else -2) = _
    rw [if_pos (by decide), nt_nI (n := 5) (by omega)]
  refine v_aload_n dX7_rewriteOf_0 rfl ?_
  refine v_get 2 dX7_rewriteOf_1 FTX7 (by decide) rfl fl_X7_26 x1 rfl ?_
  refine v_get 5 dX7_rewriteOf_4 FTX4 (by decide) rfl fl_X7_131 s1 rfl ?_
  refine v_iload_n dX7_rewriteOf_7 rfl ?_
  refine u_rV1 oX3_withNumber dX7_rewriteOf_8 ml_X7_144 (c_withS hRR x i hi hps2) r1 (by decide) (Nat.le_of_ble_eq_true rfl) (Nat.le_refl _) (Nat.le_refl _) ?_
  refine v_astore_n dX7_rewriteOf_11 (by decide) rfl ?_
  refine v_aload_n dX7_rewriteOf_12 rfl ?_
  refine v_ifnonnull (tgt := 18) dX7_rewriteOf_13 (by decide) ?_
  refine v_iload_n dX7_rewriteOf_18 rfl ?_
  refine v_tableIn (tgt := 96) (off := 77) dX7_rewriteOf_19 (by decide) (by decide) (by decide) (by decide) ?_
  refine v_aload_n dX7_rewriteOf_96 rfl ?_
  refine v_get 4 dX7_rewriteOf_97 FTX2 (by decide) rfl fl_X7_199 hr.1 rfl ?_
  refine v_iret dX7_rewriteOf_100 rfl (Nat.le_refl _) (Nat.le_refl _) ?_
  exact ⟨rfl, by rw [eI]; rfl, h, fr.rf _ _ _⟩
set_option maxHeartbeats 1000000 in
set_option maxRecDepth 100000 in
theorem k_rewriteOf6 {w : Wd} {B ns tn : Nat} {σ tx : Nat → Int32} {k : Bool} (h : CR w B σ ns k tx tn) (x : Int32) (j : Nat) (hp : plO σ x = some j) : Wr mX7_rewriteOf 6 [.ref B, .int x, .int (nI 6)] w (fun r' w' => r' = some (.int (rewriteOfI σ x (nI 6))) ∧ CR w' B σ ns k tx tn ∧ fr B 1017 w w') := by
  intro sz
  refine Ev.ofV [some (.ref B), some (.int x), some (.int (nI 6)), none] (by decide) (Nat.le_of_ble_eq_true rfl) rfl rfl rfl ?_
  have h00 := h
  obtain ⟨nx, hh, gk, hX, hG⟩ := h00
  have hXb := hX
  obtain ⟨x1, x2, ⟨f0, n0, x3⟩, x4, x5, x6, R0, x7⟩ := hXb
  have hS0 := x4
  obtain ⟨hB, ⟨n, π, κ, hRR⟩, hW, hI, hO⟩ := hS0
  have hBb := hB
  obtain ⟨s1, ⟨li, s2, s2b⟩, ⟨ak, s3, s3b⟩, ⟨ro, s4, s4b⟩, ⟨ac, s5, s5b⟩, ⟨lf, s6, s6b⟩, s7⟩ := hBb
  have hRb := hRR
  obtain ⟨⟨F, r1, r2, r3⟩, hK, hP, hS, hR⟩ := hRb
  have x5b := x5
  obtain ⟨⟨hf, v1, v2, v3⟩, hns, hnx, v4⟩ := x5b
  obtain ⟨i, hi, ek⟩ := plO_row hp hK
  have hps := plO_some hp
  have hps2 : σ (1808 + 65 * κ i) = x := by rw [ek]; exact hps.2.2
  obtain ⟨Vt, hr, hVt, hbt⟩ := hR i hi
  have hki := hK.2.1 i hi
  have hrw := hW.rw hki.1 hki.2
  have hpb := hrw.2.1.2
  have eI : rewriteOfI σ x (nI 6) = rwO σ (κ i) x 6 := by
    unfold rewriteOfI
    rw [hp, ek]
    show (if inB (nI 6) 7 = true then rwO σ j x (nt (nI 6)) else -2) = _
    rw [if_pos (by decide), nt_nI (n := 6) (by omega)]
  obtain ⟨vi, hl, hv⟩ := s7 (nt (σ (1808 + 65 * κ i + 1))) hpb
  refine v_aload_n dX7_rewriteOf_0 rfl ?_
  refine v_get 2 dX7_rewriteOf_1 FTX7 (by decide) rfl fl_X7_26 x1 rfl ?_
  refine v_get 5 dX7_rewriteOf_4 FTX4 (by decide) rfl fl_X7_131 s1 rfl ?_
  refine v_iload_n dX7_rewriteOf_7 rfl ?_
  refine u_rV1 oX3_withNumber dX7_rewriteOf_8 ml_X7_144 (c_withS hRR x i hi hps2) r1 (by decide) (Nat.le_of_ble_eq_true rfl) (Nat.le_refl _) (Nat.le_refl _) ?_
  refine v_astore_n dX7_rewriteOf_11 (by decide) rfl ?_
  refine v_aload_n dX7_rewriteOf_12 rfl ?_
  refine v_ifnonnull (tgt := 18) dX7_rewriteOf_13 (by decide) ?_
  refine v_iload_n dX7_rewriteOf_18 rfl ?_
  refine v_tableIn (tgt := 101) (off := 82) dX7_rewriteOf_19 (by decide) (by decide) (by decide) (by decide) ?_
  refine v_aload_n dX7_rewriteOf_101 rfl ?_
  refine v_get 0 dX7_rewriteOf_102 FTX2 (by decide) rfl fl_X7_198 hr.1 rfl ?_
  refine v_aload_n dX7_rewriteOf_105 rfl ?_
  refine v_get 2 dX7_rewriteOf_106 FTX7 (by decide) rfl fl_X7_26 x1 rfl ?_
  refine v_get 4 dX7_rewriteOf_109 FTX4 (by decide) rfl fl_X7_91 s1 rfl ?_
  refine v_aload_n dX7_rewriteOf_112 rfl ?_
  refine v_get 2 dX7_rewriteOf_113 FTX2 (by decide) rfl fl_X7_156 hr.1 rfl ?_
  refine v_aald (nt (σ (1808 + 65 * κ i + 1))) (by decide) dX7_rewriteOf_116 s6 hrw.2.1.1 hpb (by decide) (s6b (nt (σ (1808 + 65 * κ i + 1))) hpb) ?_
  refine v_get 0 dX7_rewriteOf_117 FTX1 (by decide) rfl fl_X7_98 hl.1 rfl ?_
  refine v_aload_n dX7_rewriteOf_120 rfl ?_
  refine v_get 6 dX7_rewriteOf_121 FTX7 (by decide) rfl fl_X7_44 x1 rfl ?_
  refine v_wV2 oX6_distanceTo dX7_rewriteOf_124 ml_X7_202 (c_distanceTo hr.2 hl.2 x7 (by have := hP.1 i (by have := hK.1; omega); omega) (by omega)) hr.2.at (by decide) (Nat.le_of_ble_eq_true rfl) (Nat.le_refl _) (Nat.le_refl _) (fun r' w1 hq => ?_)
  obtain ⟨rfl, R, rfl⟩ := hq
  refine v_iret dX7_rewriteOf_127 rfl (Nat.le_refl _) (Nat.le_refl _) ?_
  exact ⟨rfl, by rw [eI]; rfl, CR_cr h, (fr.rf B 1017 w).wu _ (by omega) (by omega)⟩
set_option maxHeartbeats 1000000 in
set_option maxRecDepth 100000 in
theorem k_rewriteOf7 {w : Wd} {B ns tn : Nat} {σ tx : Nat → Int32} {k : Bool} (h : CR w B σ ns k tx tn) (x : Int32) (j : Nat) (hp : plO σ x = some j) : Wr mX7_rewriteOf 6 [.ref B, .int x, .int (nI 7)] w (fun r' w' => r' = some (.int (rewriteOfI σ x (nI 7))) ∧ CR w' B σ ns k tx tn ∧ fr B 1017 w w') := by
  intro sz
  refine Ev.ofV [some (.ref B), some (.int x), some (.int (nI 7)), none] (by decide) (Nat.le_of_ble_eq_true rfl) rfl rfl rfl ?_
  have h00 := h
  obtain ⟨nx, hh, gk, hX, hG⟩ := h00
  have hXb := hX
  obtain ⟨x1, x2, ⟨f0, n0, x3⟩, x4, x5, x6, R0, x7⟩ := hXb
  have hS0 := x4
  obtain ⟨hB, ⟨n, π, κ, hRR⟩, hW, hI, hO⟩ := hS0
  have hBb := hB
  obtain ⟨s1, ⟨li, s2, s2b⟩, ⟨ak, s3, s3b⟩, ⟨ro, s4, s4b⟩, ⟨ac, s5, s5b⟩, ⟨lf, s6, s6b⟩, s7⟩ := hBb
  have hRb := hRR
  obtain ⟨⟨F, r1, r2, r3⟩, hK, hP, hS, hR⟩ := hRb
  have x5b := x5
  obtain ⟨⟨hf, v1, v2, v3⟩, hns, hnx, v4⟩ := x5b
  obtain ⟨i, hi, ek⟩ := plO_row hp hK
  have hps := plO_some hp
  have hps2 : σ (1808 + 65 * κ i) = x := by rw [ek]; exact hps.2.2
  obtain ⟨Vt, hr, hVt, hbt⟩ := hR i hi
  have hki := hK.2.1 i hi
  have hrw := hW.rw hki.1 hki.2
  have hpb := hrw.2.1.2
  have eI : rewriteOfI σ x (nI 7) = rwO σ (κ i) x 7 := by
    unfold rewriteOfI
    rw [hp, ek]
    show (if inB (nI 7) 7 = true then rwO σ j x (nt (nI 7)) else -2) = _
    rw [if_pos (by decide), nt_nI (n := 7) (by omega)]
  have hcl := clB_eq hK (p := nt (σ (1808 + 65 * κ i + 1))) (nd := nt (σ 16)) (lim := limW σ (nt (σ (1808 + 65 * κ i + 1)) / 3))
  refine v_aload_n dX7_rewriteOf_0 rfl ?_
  refine v_get 2 dX7_rewriteOf_1 FTX7 (by decide) rfl fl_X7_26 x1 rfl ?_
  refine v_get 5 dX7_rewriteOf_4 FTX4 (by decide) rfl fl_X7_131 s1 rfl ?_
  refine v_iload_n dX7_rewriteOf_7 rfl ?_
  refine u_rV1 oX3_withNumber dX7_rewriteOf_8 ml_X7_144 (c_withS hRR x i hi hps2) r1 (by decide) (Nat.le_of_ble_eq_true rfl) (Nat.le_refl _) (Nat.le_refl _) ?_
  refine v_astore_n dX7_rewriteOf_11 (by decide) rfl ?_
  refine v_aload_n dX7_rewriteOf_12 rfl ?_
  refine v_ifnonnull (tgt := 18) dX7_rewriteOf_13 (by decide) ?_
  refine v_iload_n dX7_rewriteOf_18 rfl ?_
  refine v_tableIn (tgt := 128) (off := 109) dX7_rewriteOf_19 (by decide) (by decide) (by decide) (by decide) ?_
  refine v_aload_n dX7_rewriteOf_128 rfl ?_
  refine v_get 2 dX7_rewriteOf_129 FTX7 (by decide) rfl fl_X7_26 x1 rfl ?_
  refine v_aload_n dX7_rewriteOf_132 rfl ?_
  refine v_get 2 dX7_rewriteOf_133 FTX2 (by decide) rfl fl_X7_156 hr.1 rfl ?_
  rw [hrw.2.1.1]
  refine u_rV1 oX4_bestRewriteFor dX7_rewriteOf_136 ml_X7_206 (c_bestRewriteFor x4 hRR (nt (σ (1808 + 65 * κ i + 1))) hpb) s1 (by decide) (Nat.le_of_ble_eq_true rfl) (Nat.le_refl _) (Nat.le_refl _) ?_
  rw [show rewriteOfI σ x (nI 7) = b2i (decide (oI ((clB σ κ (nt (σ (1808 + 65 * κ i + 1))) (nt (σ 16)) (limW σ (nt (σ (1808 + 65 * κ i + 1)) / 3)) n).map κ) = nI (κ i))) by rw [eI, ← hcl]; rfl]
  cases hc : clB σ κ (nt (σ (1808 + 65 * κ i + 1))) (nt (σ 16)) (limW σ (nt (σ (1808 + 65 * κ i + 1)) / 3)) n with
  | none =>
    refine v_aload_n dX7_rewriteOf_139 rfl ?_
    refine v_acmp_ne (rx := none) (ry := some (B + 6 + 6 + 2 + 4 * π i)) (tgt := 147) dX7_rewriteOf_140 (by decide) (fun b140 => ?_) (fun b140 => by cases b140)
    refine v_iconst (v := nI 0) dX7_rewriteOf_147 (by decide) ?_
    refine v_iret dX7_rewriteOf_148 rfl (Nat.le_refl _) (Nat.le_refl _) ?_
    refine ⟨rfl, ?_, h, fr.rf _ _ _⟩
    show _ = some (Value.int (b2i (decide ((-1 : Int32) = nI (κ i)))))
    rw [decide_eq_false (fun z => nI_ne_neg (by omega) z.symm)]
    rfl
  | some j2 =>
    have hj2 := (clB_lt hK (Nat.le_refl _) hc).1
    have hn16 := hK.1
    refine v_aload_n dX7_rewriteOf_139 rfl ?_
    refine v_acmp_ne (rx := some (B + 6 + 6 + 2 + 4 * π j2)) (ry := some (B + 6 + 6 + 2 + 4 * π i)) (tgt := 147) dX7_rewriteOf_140 (by decide) (fun b140 => ?_) (fun b140 => ?_)
    · refine v_iconst (v := nI 0) dX7_rewriteOf_147 (by decide) ?_
      refine v_iret dX7_rewriteOf_148 rfl (Nat.le_refl _) (Nat.le_refl _) ?_
      refine ⟨rfl, ?_, h, fr.rf _ _ _⟩
      show _ = some (Value.int (b2i (decide (nI (κ j2) = nI (κ i)))))
      have hkj := (hK.2.1 j2 hj2).1
      rw [decide_eq_false (fun z => b140 (by rw [hK.inj hj2 hi (by rw [nI_inj (by omega) (by omega) z])]))]
      rfl
    · refine v_iconst (v := nI 1) dX7_rewriteOf_143 (by decide) ?_
      refine v_goto (tgt := 148) dX7_rewriteOf_144 (by decide) ?_
      refine v_iret dX7_rewriteOf_148 rfl (Nat.le_refl _) (Nat.le_refl _) ?_
      refine ⟨rfl, ?_, h, fr.rf _ _ _⟩
      show _ = some (Value.int (b2i (decide (nI (κ j2) = nI (κ i)))))
      have hji : j2 = i := hP.2 j2 i (by omega) (by omega) (by have := Option.some.inj b140; omega)
      rw [hji, decide_eq_true rfl]
      rfl
theorem k_rewriteOf {w : Wd} {B ns tn : Nat} {σ tx : Nat → Int32} {k : Bool} (h : CR w B σ ns k tx tn) (x z : Int32) : Wr mX7_rewriteOf 6 [.ref B, .int x, .int z] w (fun r' w' => r' = some (.int (rewriteOfI σ x z)) ∧ CR w' B σ ns k tx tn ∧ fr B 1017 w w') := by
  cases hp : plO σ x with
  | none => exact k_rewriteOf_no h x z hp
  | some j =>
  by_cases h3 : inB z 7 = false
  · exact k_rewriteOf_out h x z j hp h3
  have hz := inB_ub (by omega) (bfalse h3)
  have hz2 := hz.2
  rw [hz.1]
  rcases Nat.lt_or_ge (nt z) 1 with q | q
  · rw [show nt z = 0 by omega]
    exact k_rewriteOf0 h x j hp
  ·
    rcases Nat.lt_or_ge (nt z) 2 with q | q
    · rw [show nt z = 1 by omega]
      exact k_rewriteOf1 h x j hp
    ·
      rcases Nat.lt_or_ge (nt z) 3 with q | q
      · rw [show nt z = 2 by omega]
        exact k_rewriteOf2 h x j hp
      ·
        rcases Nat.lt_or_ge (nt z) 4 with q | q
        · rw [show nt z = 3 by omega]
          exact k_rewriteOf3 h x j hp
        ·
          rcases Nat.lt_or_ge (nt z) 5 with q | q
          · rw [show nt z = 4 by omega]
            exact k_rewriteOf4 h x j hp
          ·
            rcases Nat.lt_or_ge (nt z) 6 with q | q
            · rw [show nt z = 5 by omega]
              exact k_rewriteOf5 h x j hp
            ·
              rcases Nat.lt_or_ge (nt z) 7 with q | q
              · rw [show nt z = 6 by omega]
                exact k_rewriteOf6 h x j hp
              ·
                rw [show nt z = 7 by omega]
                exact k_rewriteOf7 h x j hp

