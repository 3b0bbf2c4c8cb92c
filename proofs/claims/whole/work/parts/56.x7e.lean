set_option maxHeartbeats 1000000 in
set_option maxRecDepth 100000 in
theorem k_label_no {w : Wd} {B ns tn : Nat} {σ tx : Nat → Int32} {k : Bool} (h : CR w B σ ns k tx tn) (x y : Int32) (hg : (inB x 7 && inB y 2) = false) : Wr mX7_label 6 [.ref B, .int x, .int y] w (CQ w B k tx tn (labelR σ ns tx tn x y)) := by
  intro sz
  refine Ev.ofV [some (.ref B), some (.int x), some (.int y), none, none] (by decide) (Nat.le_of_ble_eq_true rfl) rfl rfl rfl ?_
  have h00 := h
  obtain ⟨nx, hh, gk, hX, hG⟩ := h00
  have hXb := hX
  obtain ⟨x1, x2, ⟨f0, n0, x3⟩, x4, x5, x6, R0, x7⟩ := hXb
  have hS0 := x4
  obtain ⟨hB, ⟨n, π, κ, hRR⟩, hW, hI, hO⟩ := hS0
  have hBb := hB
  obtain ⟨s1, ⟨li, s2, s2b⟩, ⟨ak, s3, s3b⟩, ⟨ro, s4, s4b⟩, ⟨ac, s5, s5b⟩, ⟨lf, s6, s6b⟩, s7⟩ := hBb
  have hRb := hRR
  obtain ⟨⟨F, r1, r2, r3⟩, hK, hP, hS, hR⟩ := hRb
  have x5b := x5
  obtain ⟨⟨hf, v1, v2, v3⟩, hns, hnx, v4⟩ := x5b
  refine v_iload_n dX7_label_0 rfl ?_
  refine u_rS1 oX7_isWork dX7_label_1 ml_X7_79 (c_isWork x) (by decide) (Nat.le_of_ble_eq_true rfl) (Nat.le_refl _) (Nat.le_refl _) ?_
  refine v_if_eqB (tgt := 14) dX7_label_4 (by decide) (fun b4 => ?_) (fun b4 => ?_)
  ·
    refine v_iconst (v := -1) dX7_label_14 (by decide) ?_
    refine v_iret dX7_label_15 rfl (Nat.le_refl _) (Nat.le_refl _) ?_
    have e : labelR σ ns tx tn x y = (-1, ns, σ) := by
      unfold labelR
      rw [if_neg (by rw [hg]; decide)]
    rw [e]
    exact ⟨rfl, CQ.mk h (fr.rf _ _ _)⟩
  ·
    refine v_iload_n dX7_label_7 rfl ?_
    refine u_rS1 oX7_isTongue dX7_label_8 ml_X7_63 (c_isTongue y) (by decide) (Nat.le_of_ble_eq_true rfl) (Nat.le_refl _) (Nat.le_refl _) ?_
    refine v_if_neB (tgt := 16) dX7_label_11 (by decide) (fun b11 => ?_) (fun b11 => ?_)
    ·
      exact absurd hg (by rw [b4, b11]; decide)
    ·
      refine v_iconst (v := -1) dX7_label_14 (by decide) ?_
      refine v_iret dX7_label_15 rfl (Nat.le_refl _) (Nat.le_refl _) ?_
      have e : labelR σ ns tx tn x y = (-1, ns, σ) := by
        unfold labelR
        rw [if_neg (by rw [hg]; decide)]
      rw [e]
      exact ⟨rfl, CQ.mk h (fr.rf _ _ _)⟩
theorem labS_out {s tx : Nat → Int32} {p tn q : Nat} (ht : tn ≤ 60) (h : q < 272 + 64 * p ∨ 272 + 64 * p + 64 ≤ q) : labS s p tx tn q = s q := by
  unfold labS
  rw [lay_out (by omega), up_ne _ _ (by omega), up_ne _ _ (by omega), up_ne _ _ (by omega), up_ne _ _ (by omega)]
theorem labS_R {w : Wd} {A p tn : Nat} {s tx : Nat → Int32} (ht : tn ≤ 60) (h : LO w A (-5) (s 17) (nI 0) tx tn) : LbR w A (labS s p tx tn) p := by
  have e0 : labS s p tx tn (272 + 64 * p) = nI tn := by
    unfold labS
    rw [lay_out (by omega), up_ne _ _ (by omega), up_ne _ _ (by omega), up_ne _ _ (by omega), up_eq]
  have e1 : labS s p tx tn (272 + 64 * p + 1) = -1 := by
    unfold labS
    rw [lay_out (by omega), up_ne _ _ (by omega), up_ne _ _ (by omega), up_eq]
  have e2 : labS s p tx tn (272 + 64 * p + 2) = s 17 := by
    unfold labS
    rw [lay_out (by omega), up_ne _ _ (by omega), up_eq]
  have e3 : labS s p tx tn (272 + 64 * p + 3) = nI 0 := by
    unfold labS
    rw [lay_out (by omega), up_eq]
  unfold LbR lvis
  rw [e0, e1, e2, e3, nt_nI (by omega)]
  refine ⟨-5, ⟨h.1, h.2.congr (fun j hj => ?_)⟩, fun _ => by rw [if_pos (by decide)]⟩
  show labS s p tx tn (272 + 64 * p + 4 + j) = tx j
  unfold labS lay
  rw [if_pos (by omega), show 272 + 64 * p + 4 + j - (272 + 64 * p + 4) = j by omega]
theorem WS_labS {g tx : Nat → Int32} {p tn : Nat} (h : WS g) (hp : p < 24) (ht : tn ≤ 60) (hok : okT tx tn) : WS (labS g p tx tn) := by
  refine WS_lab h hp (fun q hq => labS_out ht (by omega)) (fun q a b c => labS_out ht c) ?_
  have e0 : labS g p tx tn (272 + 64 * p) = nI tn := by
    unfold labS
    rw [lay_out (by omega), up_ne _ _ (by omega), up_ne _ _ (by omega), up_ne _ _ (by omega), up_eq]
  rw [e0, nt_nI (by omega)]
  refine ⟨ub_nI (by omega) (by omega), Or.inr (okT_congr (fun j hj => ?_) hok)⟩
  show tx j = labS g p tx tn (272 + 64 * p + 4 + j)
  unfold labS lay
  rw [if_pos (by omega), show 272 + 64 * p + 4 + j - (272 + 64 * p + 4) = j by omega]
set_option maxHeartbeats 1000000 in
set_option maxRecDepth 100000 in
theorem k_labelN {w : Wd} {B ns tn : Nat} {σ tx : Nat → Int32} {k : Bool} (h : CR w B σ ns k tx tn) (a b : Nat) (ha : a < 8) (hb : b < 3) : Wr mX7_label 6 [.ref B, .int (nI a), .int (nI b)] w (CQ w B k tx tn (labelR σ ns tx tn (nI a) (nI b))) := by
  intro sz
  refine Ev.ofV [some (.ref B), some (.int (nI a)), some (.int (nI b)), none, none] (by decide) (Nat.le_of_ble_eq_true rfl) rfl rfl rfl ?_
  have h00 := h
  obtain ⟨nx, hh, gk, hX, hG⟩ := h00
  have hXb := hX
  obtain ⟨x1, x2, ⟨f0, n0, x3⟩, x4, x5, x6, R0, x7⟩ := hXb
  have htn := x2.2.2
  have hga : inB (nI a) 7 = true := by rw [inB_nI (by omega) (by omega)]; simp; omega
  have hgb : inB (nI b) 2 = true := by rw [inB_nI (by omega) (by omega)]; simp; omega
  have hgg : (inB (nI a) 7 && inB (nI b) 2) = true := by rw [hga, hgb]; rfl
  refine v_iload_n dX7_label_0 rfl ?_
  refine u_rS1 oX7_isWork dX7_label_1 ml_X7_79 (c_isWork (nI a)) (by decide) (Nat.le_of_ble_eq_true rfl) (Nat.le_refl _) (Nat.le_refl _) ?_
  refine v_if_eqB (tgt := 14) dX7_label_4 (by decide) (fun b4 => ?_) (fun b4 => ?_)
  ·
    exact absurd hga (by rw [b4]; decide)
  ·
    refine v_iload_n dX7_label_7 rfl ?_
    refine u_rS1 oX7_isTongue dX7_label_8 ml_X7_63 (c_isTongue (nI b)) (by decide) (Nat.le_of_ble_eq_true rfl) (Nat.le_refl _) (Nat.le_refl _) ?_
    refine v_if_neB (tgt := 16) dX7_label_11 (by decide) (fun b11 => ?_) (fun b11 => ?_)
    ·
      refine v_aload_n dX7_label_16 rfl ?_
      refine v_iload_n dX7_label_17 rfl ?_
      refine v_wV1 oX7_readTextFor dX7_label_18 ml_X7_88 (c_readTextFor h a ha) x1 (by decide) (Nat.le_of_ble_eq_true rfl) (Nat.le_refl _) (Nat.le_refl _) (fun r' w1 hq => ?_)
      rcases hq with ⟨q1, ql, rfl, q3, q4, q5, q6⟩ | ⟨q1, ql, rfl, q5, q6⟩ | ⟨q1, rfl, rfl⟩
      · have hU := q5
        obtain ⟨nu_, hu_, gu_, uX, uG⟩ := hU
        have uXb := uX
        obtain ⟨u1, u2, -, u4, u5, u6, Ru, u7⟩ := uXb
        have u4b := u4
        obtain ⟨uB, ⟨n, π, κ, hRR⟩, hW, hI, hO⟩ := u4b
        have uBb := uB
        obtain ⟨c1, ⟨liu, c2, c2b⟩, ⟨aku, c3, c3b⟩, ⟨rou, c4, c4b⟩, ⟨acu, c5, c5b⟩, ⟨lfu, c6, c6b⟩, c7⟩ := uBb
        obtain ⟨vi, hl, hv⟩ := c7 (3 * a + b) (by omega)
        have hnw : nw tx tn = 1 + cnt (bl tx) tn := by
          unfold nw
          rw [if_pos q3.1]
        refine v_istore_n dX7_label_21 (by decide) rfl ?_
        refine v_iload_n dX7_label_22 rfl ?_
        refine v_if_eqN (tgt := 28) dX7_label_23 (by decide) (by decide) (fun _ => ?_) (fun z => absurd z (by decide))
        refine v_aload_n dX7_label_28 rfl ?_
        refine v_get 2 dX7_label_29 FTX7 (by decide) rfl fl_X7_26 u1 rfl ?_
        refine v_get 4 dX7_label_32 FTX4 (by decide) rfl fl_X7_91 c1 rfl ?_
        refine v_iload_n dX7_label_35 rfl ?_
        refine v_iload_n dX7_label_36 rfl ?_
        refine u_rS2 oX7_placeOf dX7_label_37 ml_X7_95 (c_place7 a b) (by decide) (Nat.le_of_ble_eq_true rfl) (Nat.le_refl _) (Nat.le_refl _) ?_
        refine v_aald _ (by decide) dX7_label_40 c6 rfl (by omega) (by decide) (c6b (3 * a + b) (by omega)) ?_
        refine v_astore dX7_label_41 (by decide) rfl ?_
        refine v_aload dX7_label_43 rfl ?_
        refine v_get 0 dX7_label_45 FTX1 (by decide) rfl fl_X7_98 hl.1 rfl ?_
        refine v_aload_n dX7_label_48 rfl ?_
        refine v_get 1 dX7_label_49 FTX7 (by decide) rfl fl_X7_19 u1 rfl ?_
        refine u_rV1 oX6_isLike dX7_label_52 ml_X7_103 (c_isLike hl.2 q4) hl.2.at (by decide) (Nat.le_of_ble_eq_true rfl) (Nat.le_refl _) (Nat.le_refl _) ?_
        refine v_if_eqB (tgt := 61) dX7_label_55 (by decide) (fun b55 => ?_) (fun b55 => ?_)
        ·
          refine v_aload_n dX7_label_61 rfl ?_
          refine v_get 3 dX7_label_62 FTX7 (by decide) rfl fl_X7_33 u1 rfl ?_
          refine v_aload_n dX7_label_65 rfl ?_
          refine v_get 2 dX7_label_66 FTX7 (by decide) rfl fl_X7_26 u1 rfl ?_
          refine v_wV1 oX0_push dX7_label_69 ml_X7_55 (c_push u5 u4 (by omega)) u5.1.choose_spec.1 (by decide) (Nat.le_of_ble_eq_true rfl) (Nat.le_refl _) (Nat.le_refl _) (fun r' w2 hq2 => ?_)
          obtain ⟨rfl, p1, p2⟩ := hq2
          have hC := CR_push uX uG p1 p2
          have hCb := hC
          obtain ⟨ny, hy, gy, ⟨y1, y2, ⟨f1, m1, y3⟩, y4, y5, y6, R1, y7⟩, hGy⟩ := hCb
          have y4b := y4
          obtain ⟨hBy, -, hWy, hIy, hOy⟩ := y4b
          have hByb := hBy
          obtain ⟨t1, ⟨liy, t2, t2b⟩, ⟨aky, t3, t3b⟩, ⟨roy, t4, t4b⟩, ⟨acy, t5, t5b⟩, ⟨lfy, t6, t6b⟩, t7⟩ := hByb
          have f1w : fr B 1017 w w2 := (q6.mono (by omega) (by omega)).tr (p2.mono (by omega) (by omega))
          have q4y := q4.fr (w' := w2) (fun q h1 h2 => p2 q (by omega))
          obtain ⟨v2, hl2, hv2⟩ := t7 (3 * a + b) (by omega)
          refine v_aload dX7_label_72 rfl ?_
          refine v_aload_n dX7_label_74 rfl ?_
          refine v_get 1 dX7_label_75 FTX7 (by decide) rfl fl_X7_19 y1 rfl ?_
          refine v_bipush (v := -5) dX7_label_78 (by decide) ?_
          refine v_aload_n dX7_label_80 rfl ?_
          refine v_get 2 dX7_label_81 FTX7 (by decide) rfl fl_X7_26 y1 rfl ?_
          refine v_get 7 dX7_label_84 FTX4 (by decide) rfl fl_X7_107 t1 rfl ?_
          refine v_wV3 oX1_become dX7_label_87 ml_X7_111 (c_lbecome hl2 q4y (by omega) (-5) (rcS σ ns 17)) hl2.1 (by decide) (Nat.le_of_ble_eq_true rfl) (Nat.le_refl _) (Nat.le_refl _) (fun r' w3 hq3 => ?_)
          obtain ⟨rfl, k3, k4⟩ := hq3
          have q7 := SR_lab y4 (show (3 * a + b) < 24 by omega) (labS_R htn k3) k4 (WS_labS hWy (show (3 * a + b) < 24 by omega) htn q3) (fun q hq => labS_out htn (by omega))
          have tw := (k4 _ (by omega)).trans y1
          have qw := q4y.fr (w' := w3) (fun q h1 h2 => k4 q (by omega))
          refine v_aload_n dX7_label_90 rfl ?_
          refine v_get 1 dX7_label_91 FTX7 (by decide) rfl fl_X7_19 tw rfl ?_
          refine v_get 3 dX7_label_94 FTX6 (by decide) rfl fl_X7_115 qw.at rfl ?_
          refine v_iret dX7_label_97 rfl (Nat.le_refl _) (Nat.le_refl _) ?_
          rw [hnw]
          have e : labelR σ ns tx tn (nI a) (nI b) = (nI (1 + cnt (bl tx) tn), rcn ns, labS (rcS σ ns) (3 * a + b) tx tn) := by
            unfold labelR
            rw [if_pos hgg, if_pos q1, nt_nI (n := a) (by omega), nt_nI (n := b) (by omega), if_pos ql, if_neg (show ¬ told (sft σ (272 + 64 * (3 * a + b) + 4)) tx (ln σ (3 * a + b)) tn = true by rw [show told (sft σ (272 + 64 * (3 * a + b) + 4)) tx (ln σ (3 * a + b)) tn = false from b55]; decide)]
          rw [e]
          exact ⟨rfl, CQ.mk (CR_st hC q7 (k4.mono (by omega) (by omega)) (fun q hq => labS_out htn (by omega))) (f1w.tr (k4.mono (by omega) (by omega)))⟩
        ·
          refine v_bipush (v := -5) dX7_label_58 (by decide) ?_
          refine v_iret dX7_label_60 rfl (Nat.le_refl _) (Nat.le_refl _) ?_
          have e : labelR σ ns tx tn (nI a) (nI b) = (-5, ns, σ) := by
            unfold labelR
            rw [if_pos hgg, if_pos q1, nt_nI (n := a) (by omega), nt_nI (n := b) (by omega), if_pos ql, if_pos (show told (sft σ (272 + 64 * (3 * a + b) + 4)) tx (ln σ (3 * a + b)) tn = true from b55)]
          rw [e]
          exact ⟨rfl, CQ.mk q5 (q6.mono (by omega) (by omega))⟩
      ·
        refine v_istore_n dX7_label_21 (by decide) rfl ?_
        refine v_iload_n dX7_label_22 rfl ?_
        refine v_if_eq (tgt := 28) dX7_label_23 (by decide) (fun b23 => ?_) (fun b23 => ?_)
        ·
          exact absurd b23 (by decide)
        ·
          refine v_iload_n dX7_label_26 rfl ?_
          refine v_iret dX7_label_27 rfl (Nat.le_refl _) (Nat.le_refl _) ?_
          have e : labelR σ ns tx tn (nI a) (nI b) = (-6, ns, σ) := by
            unfold labelR
            rw [if_pos hgg, if_pos q1, nt_nI (n := a) (by omega), nt_nI (n := b) (by omega), if_neg ql]
          rw [e]
          exact ⟨rfl, CQ.mk q5 (q6.mono (by omega) (by omega))⟩
      ·
        refine v_istore_n dX7_label_21 (by decide) rfl ?_
        refine v_iload_n dX7_label_22 rfl ?_
        refine v_if_eq (tgt := 28) dX7_label_23 (by decide) (fun b23 => ?_) (fun b23 => ?_)
        ·
          exact absurd b23 (err_ne x2.2.2 q1)
        ·
          refine v_iload_n dX7_label_26 rfl ?_
          refine v_iret dX7_label_27 rfl (Nat.le_refl _) (Nat.le_refl _) ?_
          have e : labelR σ ns tx tn (nI a) (nI b) = (-100 - flt tx tn, ns, σ) := by
            unfold labelR
            rw [if_pos hgg, if_neg q1]
          rw [e]
          exact ⟨rfl, CQ.mk h (fr.rf _ _ _)⟩
    ·
      exact absurd hgb (by rw [b11]; decide)
theorem k_label {w : Wd} {B ns tn : Nat} {σ tx : Nat → Int32} {k : Bool} (h : CR w B σ ns k tx tn) (x y : Int32) : Wr mX7_label 6 [.ref B, .int x, .int y] w (CQ w B k tx tn (labelR σ ns tx tn x y)) := by
  by_cases hg : (inB x 7 && inB y 2) = false
  · exact k_label_no h x y hg
  have h2 := bfalse hg
  simp only [Bool.and_eq_true] at h2
  have hx := inB_ub (by omega) h2.1
  have hy := inB_ub (by omega) h2.2
  rw [hx.1, hy.1]
  exact k_labelN h (nt x) (nt y) hx.2 hy.2
