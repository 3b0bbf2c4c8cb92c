set_option maxHeartbeats 1000000 in
set_option maxRecDepth 100000 in
theorem k_setLimit_no {w : Wd} {B ns tn : Nat} {σ tx : Nat → Int32} {k : Bool} (h : CR w B σ ns k tx tn) (x y : Int32) (hg : inB x 3 = false) : Wr mX7_setLimit 6 [.ref B, .int x, .int y] w (CQ w B k tx tn (setLimitR σ ns x y)) := by
  intro sz
  refine Ev.ofV [some (.ref B), some (.int x), some (.int y)] (by decide) (Nat.le_of_ble_eq_true rfl) rfl rfl rfl ?_
  have h00 := h
  obtain ⟨nx, hh, gk, hX, hG⟩ := h00
  have hXb := hX
  obtain ⟨x1, x2, ⟨f0, n0, x3⟩, x4, x5, x6, R0, x7⟩ := hXb
  have hS0 := x4
  obtain ⟨hB, ⟨n, π, κ, hRR⟩, hW, hI, hO⟩ := hS0
  have hBb := hB
  obtain ⟨s1, ⟨li, s2, s2b⟩, ⟨ak, s3, s3b⟩, ⟨ro, s4, s4b⟩, ⟨ac, s5, s5b⟩, ⟨lf, s6, s6b⟩, s7⟩ := hBb
  have hRb := hRR
  obtain ⟨⟨F, r1, r2, r3⟩, hK, hP, hS, hR⟩ := hRb
  have x5b := x5
  obtain ⟨⟨hf, v1, v2, v3⟩, hns, hnx, v4⟩ := x5b
  refine v_iload_n dX7_setLimit_0 rfl ?_
  refine u_rS1 oX7_isRoom dX7_setLimit_1 ml_X7_48 (c_isRoom x) (by decide) (Nat.le_of_ble_eq_true rfl) (Nat.le_refl _) (Nat.le_refl _) ?_
  refine v_if_neB (tgt := 9) dX7_setLimit_4 (by decide) (fun b4 => ?_) (fun b4 => ?_)
  ·
    exact absurd hg (by rw [b4]; decide)
  ·
    refine v_iconst (v := -1) dX7_setLimit_7 (by decide) ?_
    refine v_iret dX7_setLimit_8 rfl (Nat.le_refl _) (Nat.le_refl _) ?_
    have e : setLimitR σ ns x y = (-1, ns, σ) := by
      unfold setLimitR
      rw [if_neg (by rw [hg]; decide)]
    rw [e]
    exact ⟨rfl, CQ.mk h (fr.rf _ _ _)⟩
set_option maxHeartbeats 1000000 in
set_option maxRecDepth 100000 in
theorem k_setLimitN {w : Wd} {B ns tn : Nat} {σ tx : Nat → Int32} {k : Bool} (h : CR w B σ ns k tx tn) (a : Nat) (ha : a < 4) (y : Int32) : Wr mX7_setLimit 6 [.ref B, .int (nI a), .int y] w (CQ w B k tx tn (setLimitR σ ns (nI a) y)) := by
  intro sz
  refine Ev.ofV [some (.ref B), some (.int (nI a)), some (.int y)] (by decide) (Nat.le_of_ble_eq_true rfl) rfl rfl rfl ?_
  have h00 := h
  obtain ⟨nx, hh, gk, hX, hG⟩ := h00
  have hXb := hX
  obtain ⟨x1, x2, ⟨f0, n0, x3⟩, x4, x5, x6, R0, x7⟩ := hXb
  have hS0 := x4
  obtain ⟨hB, ⟨n, π, κ, hRR⟩, hW, hI, hO⟩ := hS0
  have hBb := hB
  obtain ⟨s1, ⟨li, s2, s2b⟩, ⟨ak, s3, s3b⟩, ⟨ro, s4, s4b⟩, ⟨ac, s5, s5b⟩, ⟨lf, s6, s6b⟩, s7⟩ := hBb
  have hRb := hRR
  obtain ⟨⟨F, r1, r2, r3⟩, hK, hP, hS, hR⟩ := hRb
  have x5b := x5
  obtain ⟨⟨hf, v1, v2, v3⟩, hns, hnx, v4⟩ := x5b
  have hga : inB (nI a) 3 = true := by rw [inB_nI (by omega) (by omega)]; simp; omega
  refine v_iload_n dX7_setLimit_0 rfl ?_
  refine u_rS1 oX7_isRoom dX7_setLimit_1 ml_X7_48 (c_isRoom (nI a)) (by decide) (Nat.le_of_ble_eq_true rfl) (Nat.le_refl _) (Nat.le_refl _) ?_
  refine v_if_neB (tgt := 9) dX7_setLimit_4 (by decide) (fun b4 => ?_) (fun b4 => ?_)
  ·
    refine v_iload_n dX7_setLimit_9 rfl ?_
    refine v_iconst (v := nI 1) dX7_setLimit_10 (by decide) ?_
    refine v_icmp_lt (tgt := 20) dX7_setLimit_11 (by decide) (fun b11 => ?_) (fun b11 => ?_)
    ·
      refine v_bipush (v := -2) dX7_setLimit_20 (by decide) ?_
      refine v_iret dX7_setLimit_22 rfl (Nat.le_refl _) (Nat.le_refl _) ?_
      have e : setLimitR σ ns (nI a) y = (-2, ns, σ) := by
        unfold setLimitR
        rw [if_pos hga, if_neg (fun z => Int32.not_lt.mpr z.1 b11)]
      rw [e]
      exact ⟨rfl, CQ.mk h (fr.rf _ _ _)⟩
    ·
      refine v_iload_n dX7_setLimit_14 rfl ?_
      refine v_bipush (v := nI 15) dX7_setLimit_15 (by decide) ?_
      refine v_icmp_le (tgt := 23) dX7_setLimit_17 (by decide) (fun b17 => ?_) (fun b17 => ?_)
      ·
        refine v_aload_n dX7_setLimit_23 rfl ?_
        refine v_get 2 dX7_setLimit_24 FTX7 (by decide) rfl fl_X7_26 x1 rfl ?_
        refine v_get 0 dX7_setLimit_27 FTX4 (by decide) rfl fl_X7_52 s1 rfl ?_
        refine v_iload_n dX7_setLimit_30 rfl ?_
        refine v_ialdE _ dX7_setLimit_31 s2 rfl (by omega) (by decide) (s2b a ha) ?_
        refine v_iload_n dX7_setLimit_32 rfl ?_
        refine v_icmp_ne (tgt := 39) dX7_setLimit_33 (by decide) (fun b33 => ?_) (fun b33 => ?_)
        ·
          refine v_aload_n dX7_setLimit_39 rfl ?_
          refine v_get 3 dX7_setLimit_40 FTX7 (by decide) rfl fl_X7_33 x1 rfl ?_
          refine v_aload_n dX7_setLimit_43 rfl ?_
          refine v_get 2 dX7_setLimit_44 FTX7 (by decide) rfl fl_X7_26 x1 rfl ?_
          refine v_wV1 oX0_push dX7_setLimit_47 ml_X7_55 (c_push x5 x4 (by omega)) v1 (by decide) (Nat.le_of_ble_eq_true rfl) (Nat.le_refl _) (Nat.le_refl _) (fun r' w1 hq => ?_)
          obtain ⟨rfl, q1, q2⟩ := hq
          have hC := CR_push hX hG q1 q2
          have hCb := hC
          obtain ⟨ny, hy, gy, ⟨y1, y2, ⟨f1, m1, y3⟩, y4, y5, y6, R1, y7⟩, hGy⟩ := hCb
          have y4b := y4
          obtain ⟨hBy, -, hWy, hIy, hOy⟩ := y4b
          have hByb := hBy
          obtain ⟨t1, ⟨liy, t2, t2b⟩, ⟨aky, t3, t3b⟩, ⟨roy, t4, t4b⟩, ⟨acy, t5, t5b⟩, ⟨lfy, t6, t6b⟩, t7⟩ := hByb
          have f1w : fr B 1017 w w1 := q2.mono (by omega) (by omega)
          refine v_aload_n dX7_setLimit_50 rfl ?_
          refine v_get 2 dX7_setLimit_51 FTX7 (by decide) rfl fl_X7_26 y1 rfl ?_
          refine v_iload_n dX7_setLimit_54 rfl ?_
          refine v_iload_n dX7_setLimit_55 rfl ?_
          refine v_wV2 oX4_changeLimit dX7_setLimit_56 ml_X7_59 (c_changeLimit y4 a y ha (lim_ub ⟨Int32.not_lt.mp b11, b17⟩)) t1 (by decide) (Nat.le_of_ble_eq_true rfl) (Nat.le_refl _) (Nat.le_refl _) (fun r' w2 hq => ?_)
          obtain ⟨rfl, q3, q4⟩ := hq
          refine v_iret dX7_setLimit_59 rfl (Nat.le_refl _) (Nat.le_refl _) ?_
          have e : setLimitR σ ns (nI a) y = (nI (slN (upd (rcS σ ns) (12 + a) y) a (nt y) 8), rcn ns, slS (upd (rcS σ ns) (12 + a) y) a (nt y) 8) := by
            unfold setLimitR
            rw [if_pos hga, if_pos ⟨Int32.not_lt.mp b11, b17⟩, nt_nI (n := a) (by omega), if_neg b33]
          rw [e]
          exact ⟨rfl, CQ.mk (CR_st hC q3 q4 (fun q hq => (slS_out (by omega) 8 (by omega)).trans (up_ne _ _ (by omega)))) (f1w.tr (q4.mono (by omega) (by omega)))⟩
        ·
          refine v_bipush (v := -5) dX7_setLimit_36 (by decide) ?_
          refine v_iret dX7_setLimit_38 rfl (Nat.le_refl _) (Nat.le_refl _) ?_
          have e : setLimitR σ ns (nI a) y = (-5, ns, σ) := by
            unfold setLimitR
            rw [if_pos hga, if_pos ⟨Int32.not_lt.mp b11, b17⟩, nt_nI (n := a) (by omega), if_pos b33]
          rw [e]
          exact ⟨rfl, CQ.mk h (fr.rf _ _ _)⟩
      ·
        refine v_bipush (v := -2) dX7_setLimit_20 (by decide) ?_
        refine v_iret dX7_setLimit_22 rfl (Nat.le_refl _) (Nat.le_refl _) ?_
        have e : setLimitR σ ns (nI a) y = (-2, ns, σ) := by
          unfold setLimitR
          rw [if_pos hga, if_neg (fun z => b17 z.2)]
        rw [e]
        exact ⟨rfl, CQ.mk h (fr.rf _ _ _)⟩
  ·
    exact absurd hga (by rw [b4]; decide)
theorem k_setLimit {w : Wd} {B ns tn : Nat} {σ tx : Nat → Int32} {k : Bool} (h : CR w B σ ns k tx tn) (x y : Int32) : Wr mX7_setLimit 6 [.ref B, .int x, .int y] w (CQ w B k tx tn (setLimitR σ ns x y)) := by
  by_cases hg : inB x 3 = false
  · exact k_setLimit_no h x y hg
  have hx := inB_ub (by omega) (bfalse hg)
  rw [hx.1]
  exact k_setLimitN h (nt x) hx.2 y
theorem xor_ok {m b : Nat} (hm : m < 8) (hb : b < 3) : ∃ u, u < 8 ∧ (nI m ^^^ (nI 1 <<< (nI b &&& 31))) = nI u := by
  have : ∀ m : Fin 8, ∀ b : Fin 3, (m.val ^^^ 2 ^ b.val) < 8 ∧ (nI m.val ^^^ (nI 1 <<< (nI b.val &&& 31))) = nI (m.val ^^^ 2 ^ b.val) := by decide +kernel
  exact ⟨_, this ⟨m, hm⟩ ⟨b, hb⟩⟩
theorem bc_bits {u : Nat} (hu : u < 8) : bcI (nI u) = bitsI (nI u) := by
  have : ∀ u : Fin 8, bcI (nI u.val) = bitsI (nI u.val) := by decide +kernel
  exact this ⟨u, hu⟩
theorem WS_row {g : Nat → Int32} (h : WS g) {j : Nat} {y : Int32} (hy : (j < 8 ∧ ub y 4) ∨ (8 ≤ j ∧ j < 12 ∧ ub y 8) ∨ (j = 16 ∧ ub y 10 ∧ 1 ≤ nt y)) : WS (upd g j y) := by
  obtain ⟨h1, h2, h3, h4, h5, h6, h7⟩ := h
  have e : ∀ q, q ≠ j → upd g j y q = g q := fun q hq => up_ne _ _ hq
  refine ⟨fun a ha => ?_, fun i hi => ?_, fun i hi => ?_, ?_, ?_, fun p hp => ?_, fun k hk => ?_⟩
  · by_cases z : a = j
    · rw [z, up_eq]
      rcases hy with y1 | y1 | y1
      · exact y1.2
      · omega
      · omega
    · rw [e _ z]; exact h1 a ha
  · by_cases z : 8 + i = j
    · rw [z, up_eq]
      rcases hy with y1 | y1 | y1
      · omega
      · exact y1.2.2
      · omega
    · rw [e _ z]; exact h2 i hi
  · rw [e _ (by omega)]; exact h3 i hi
  · by_cases z : 16 = j
    · rw [z, up_eq]
      rcases hy with y1 | y1 | y1
      · omega
      · omega
      · exact y1.2
    · rw [e _ z]; exact h4
  · rw [e _ (by omega)]; exact h5
  · rw [e _ (by omega)]
    exact ⟨(h6 p hp).1, (h6 p hp).2.imp id (okT_congr (fun i hi => (e _ (by omega)).symm))⟩
  · rw [e _ (by omega)]
    refine (h7 k hk).imp id (fun ⟨a1, a2, a3, a4, a5, a6⟩ => ?_)
    unfold rwk
    rw [e _ (by omega), e 18 (by omega), e _ (by omega), e _ (by omega), e _ (by omega), e _ (by omega)]
    exact ⟨a1, a2, a3, a4, a5, okT_congr (fun i hi => (e _ (by omega)).symm) a6⟩
theorem SR_ask {w : Wd} {S r : Nat} {g ak : Nat → Int32} {y : Int32} (h : SR w S g) (hr : r < 4) (hy : ub y 8) (hak : ∀ r, r < 4 → ak r = g (8 + r)) : SR (wu w (S + 2) (ia 1 4 (upd ak r y))) S (upd g (8 + r) y) := by
  have e : ∀ q, q ≠ 8 + r → upd g (8 + r) y q = g q := fun q hq => up_ne _ _ hq
  refine SR_lo h ?_ (WS_row h.2.2.1 (Or.inr (Or.inl ⟨by omega, by omega, hy⟩))) (fun q h1 h2 => wu_ne _ _ (by omega)) (fun q hq => e q (by omega))
  obtain ⟨⟨s1, ⟨li, s2, s2b⟩, -, ⟨ro, s4, s4b⟩, ⟨ac, s5, s5b⟩, ⟨lf, s6, s6b⟩, s7⟩, -⟩ := h
  have ew : ∀ q, q ≠ S + 2 → wu w (S + 2) (ia 1 4 (upd ak r y)) q = w q := fun q hq => wu_ne _ _ hq
  show SBx _ S _ (upd g (8 + r) y 16) (upd g (8 + r) y 17) (upd g (8 + r) y 19) (upd g (8 + r) y 20) (upd g (8 + r) y 21)
  rw [e 16 (by omega), e 17 (by omega), e 19 (by omega), e 20 (by omega), e 21 (by omega)]
  refine ⟨(ew _ (by omega)).trans s1, ⟨li, (ew _ (by omega)).trans s2, fun i hi => (s2b i hi).trans (e _ (by omega)).symm⟩, ⟨_, wu_eq _ _ _, fun i hi => ?_⟩, ⟨ro, (ew _ (by omega)).trans s4, fun i hi => (s4b i hi).trans (e _ (by omega)).symm⟩, ⟨ac, (ew _ (by omega)).trans s5, fun i hi => (s5b i hi).trans (e _ (by omega)).symm⟩, ⟨lf, (ew _ (by omega)).trans s6, s6b⟩, fun p hp => ((s7 p hp).fr (fun q h1 h2 => ew q (by omega))).congr (fun q h1 h2 => e q (by omega))⟩
  by_cases z : i = r
  · rw [z, up_eq, up_eq]
  · rw [up_ne _ _ z, e _ (by omega)]
    exact hak i hi
theorem SR_room {w : Wd} {S a : Nat} {g ro : Nat → Int32} {y : Int32} (h : SR w S g) (ha : a < 8) (hy : ub y 4) (hro : ∀ a, a < 8 → ro a = g a) : SR (wu w (S + 3) (ia 1 8 (upd ro a y))) S (upd g a y) := by
  have e : ∀ q, q ≠ a → upd g a y q = g q := fun q hq => up_ne _ _ hq
  refine SR_lo h ?_ (WS_row h.2.2.1 (Or.inl ⟨ha, hy⟩)) (fun q h1 h2 => wu_ne _ _ (by omega)) (fun q hq => e q (by omega))
  obtain ⟨⟨s1, ⟨li, s2, s2b⟩, ⟨ak, s3, s3b⟩, -, ⟨ac, s5, s5b⟩, ⟨lf, s6, s6b⟩, s7⟩, -⟩ := h
  have ew : ∀ q, q ≠ S + 3 → wu w (S + 3) (ia 1 8 (upd ro a y)) q = w q := fun q hq => wu_ne _ _ hq
  show SBx _ S _ (upd g a y 16) (upd g a y 17) (upd g a y 19) (upd g a y 20) (upd g a y 21)
  rw [e 16 (by omega), e 17 (by omega), e 19 (by omega), e 20 (by omega), e 21 (by omega)]
  refine ⟨(ew _ (by omega)).trans s1, ⟨li, (ew _ (by omega)).trans s2, fun i hi => (s2b i hi).trans (e _ (by omega)).symm⟩, ⟨ak, (ew _ (by omega)).trans s3, fun i hi => (s3b i hi).trans (e _ (by omega)).symm⟩, ⟨_, wu_eq _ _ _, fun i hi => ?_⟩, ⟨ac, (ew _ (by omega)).trans s5, fun i hi => (s5b i hi).trans (e _ (by omega)).symm⟩, ⟨lf, (ew _ (by omega)).trans s6, s6b⟩, fun p hp => ((s7 p hp).fr (fun q h1 h2 => ew q (by omega))).congr (fun q h1 h2 => e q (by omega))⟩
  by_cases z : i = a
  · rw [z, up_eq, up_eq]
  · rw [up_ne _ _ z, e _ z]
    exact hro i hi
set_option maxHeartbeats 1000000 in
set_option maxRecDepth 100000 in
theorem k_ask_no {w : Wd} {B ns tn : Nat} {σ tx : Nat → Int32} {k : Bool} (h : CR w B σ ns k tx tn) (x y : Int32) (t : Bool) (hg : (inB x 3 && inB y 2) = false) : Wr mX7_ask 6 [.ref B, .int x, .int y, .int (b2i t)] w (CQ w B k tx tn (askR σ ns x y t)) := by
  intro sz
  refine Ev.ofV [some (.ref B), some (.int x), some (.int y), some (.int (b2i t))] (by decide) (Nat.le_of_ble_eq_true rfl) rfl rfl rfl ?_
  have h00 := h
  obtain ⟨nx, hh, gk, hX, hG⟩ := h00
  have hXb := hX
  obtain ⟨x1, x2, ⟨f0, n0, x3⟩, x4, x5, x6, R0, x7⟩ := hXb
  have hS0 := x4
  obtain ⟨hB, ⟨n, π, κ, hRR⟩, hW, hI, hO⟩ := hS0
  have hBb := hB
  obtain ⟨s1, ⟨li, s2, s2b⟩, ⟨ak, s3, s3b⟩, ⟨ro, s4, s4b⟩, ⟨ac, s5, s5b⟩, ⟨lf, s6, s6b⟩, s7⟩ := hBb
  have hRb := hRR
  obtain ⟨⟨F, r1, r2, r3⟩, hK, hP, hS, hR⟩ := hRb
  have x5b := x5
  obtain ⟨⟨hf, v1, v2, v3⟩, hns, hnx, v4⟩ := x5b
  refine v_iload_n dX7_ask_0 rfl ?_
  refine u_rS1 oX7_isRoom dX7_ask_1 ml_X7_48 (c_isRoom x) (by decide) (Nat.le_of_ble_eq_true rfl) (Nat.le_refl _) (Nat.le_refl _) ?_
  refine v_if_eqB (tgt := 14) dX7_ask_4 (by decide) (fun b4 => ?_) (fun b4 => ?_)
  ·
    refine v_iconst (v := -1) dX7_ask_14 (by decide) ?_
    refine v_iret dX7_ask_15 rfl (Nat.le_refl _) (Nat.le_refl _) ?_
    have e : askR σ ns x y t = (-1, ns, σ) := by
      unfold askR
      rw [if_neg (by rw [hg]; decide)]
    rw [e]
    exact ⟨rfl, CQ.mk h (fr.rf _ _ _)⟩
  ·
    refine v_iload_n dX7_ask_7 rfl ?_
    refine u_rS1 oX7_isTongue dX7_ask_8 ml_X7_63 (c_isTongue y) (by decide) (Nat.le_of_ble_eq_true rfl) (Nat.le_refl _) (Nat.le_refl _) ?_
    refine v_if_neB (tgt := 16) dX7_ask_11 (by decide) (fun b11 => ?_) (fun b11 => ?_)
    ·
      exact absurd hg (by rw [b4, b11]; decide)
    ·
      refine v_iconst (v := -1) dX7_ask_14 (by decide) ?_
      refine v_iret dX7_ask_15 rfl (Nat.le_refl _) (Nat.le_refl _) ?_
      have e : askR σ ns x y t = (-1, ns, σ) := by
        unfold askR
        rw [if_neg (by rw [hg]; decide)]
      rw [e]
      exact ⟨rfl, CQ.mk h (fr.rf _ _ _)⟩
set_option maxHeartbeats 1000000 in
set_option maxRecDepth 100000 in
theorem k_askN {w : Wd} {B ns tn : Nat} {σ tx : Nat → Int32} {k : Bool} (h : CR w B σ ns k tx tn) (a b : Nat) (ha : a < 4) (hb : b < 3) (t : Bool) : Wr mX7_ask 6 [.ref B, .int (nI a), .int (nI b), .int (b2i t)] w (CQ w B k tx tn (askR σ ns (nI a) (nI b) t)) := by
  intro sz
  refine Ev.ofV [some (.ref B), some (.int (nI a)), some (.int (nI b)), some (.int (b2i t))] (by decide) (Nat.le_of_ble_eq_true rfl) rfl rfl rfl ?_
  have h00 := h
  obtain ⟨nx, hh, gk, hX, hG⟩ := h00
  have hXb := hX
  obtain ⟨x1, x2, ⟨f0, n0, x3⟩, x4, x5, x6, R0, x7⟩ := hXb
  have hS0 := x4
  obtain ⟨hB, ⟨n, π, κ, hRR⟩, hW, hI, hO⟩ := hS0
  have hBb := hB
  obtain ⟨s1, ⟨li, s2, s2b⟩, ⟨ak, s3, s3b⟩, ⟨ro, s4, s4b⟩, ⟨ac, s5, s5b⟩, ⟨lf, s6, s6b⟩, s7⟩ := hBb
  have hRb := hRR
  obtain ⟨⟨F, r1, r2, r3⟩, hK, hP, hS, hR⟩ := hRb
  have x5b := x5
  obtain ⟨⟨hf, v1, v2, v3⟩, hns, hnx, v4⟩ := x5b
  have hga : inB (nI a) 3 = true := by rw [inB_nI (by omega) (by omega)]; simp; omega
  have hgb : inB (nI b) 2 = true := by rw [inB_nI (by omega) (by omega)]; simp; omega
  have hgg : (inB (nI a) 3 && inB (nI b) 2) = true := by rw [hga, hgb]; rfl
  have hm := hW.2.1 a ha
  obtain ⟨u, hu, hxu⟩ := xor_ok hm.2 hb
  rw [← hm.1] at hxu
  have hub : ub (σ (8 + a) ^^^ (nI 1 <<< (nI b &&& 31))) 8 := by rw [hxu]; exact ub_nI hu (by omega)
  have hbits : bcI (σ (8 + a) ^^^ (nI 1 <<< (nI b &&& 31))) = bitsI (σ (8 + a) ^^^ (nI 1 <<< (nI b &&& 31))) := by rw [hxu]; exact bc_bits hu
  refine v_iload_n dX7_ask_0 rfl ?_
  refine u_rS1 oX7_isRoom dX7_ask_1 ml_X7_48 (c_isRoom (nI a)) (by decide) (Nat.le_of_ble_eq_true rfl) (Nat.le_refl _) (Nat.le_refl _) ?_
  refine v_if_eqB (tgt := 14) dX7_ask_4 (by decide) (fun b4 => ?_) (fun b4 => ?_)
  ·
    exact absurd hga (by rw [b4]; decide)
  ·
    refine v_iload_n dX7_ask_7 rfl ?_
    refine u_rS1 oX7_isTongue dX7_ask_8 ml_X7_63 (c_isTongue (nI b)) (by decide) (Nat.le_of_ble_eq_true rfl) (Nat.le_refl _) (Nat.le_refl _) ?_
    refine v_if_neB (tgt := 16) dX7_ask_11 (by decide) (fun b11 => ?_) (fun b11 => ?_)
    ·
      refine v_aload_n dX7_ask_16 rfl ?_
      refine v_get 2 dX7_ask_17 FTX7 (by decide) rfl fl_X7_26 x1 rfl ?_
      refine v_iload_n dX7_ask_20 rfl ?_
      refine v_iload_n dX7_ask_21 rfl ?_
      refine u_rV2 oX4_asksFor dX7_ask_22 ml_X7_66 (c_asksFor x4 a b ha hb) s1 (by decide) (Nat.le_of_ble_eq_true rfl) (Nat.le_refl _) (Nat.le_refl _) ?_
      refine v_iload_n dX7_ask_25 rfl ?_
      refine v_icmp_ne (tgt := 32) dX7_ask_26 (by decide) (fun b26 => ?_) (fun b26 => ?_)
      ·
        refine v_aload_n dX7_ask_32 rfl ?_
        refine v_get 3 dX7_ask_33 FTX7 (by decide) rfl fl_X7_33 x1 rfl ?_
        refine v_aload_n dX7_ask_36 rfl ?_
        refine v_get 2 dX7_ask_37 FTX7 (by decide) rfl fl_X7_26 x1 rfl ?_
        refine v_wV1 oX0_push dX7_ask_40 ml_X7_55 (c_push x5 x4 (by omega)) v1 (by decide) (Nat.le_of_ble_eq_true rfl) (Nat.le_refl _) (Nat.le_refl _) (fun r' w1 hq => ?_)
        obtain ⟨rfl, q1, q2⟩ := hq
        have hC := CR_push hX hG q1 q2
        have hCb := hC
        obtain ⟨ny, hy, gy, ⟨y1, y2, ⟨f1, m1, y3⟩, y4, y5, y6, R1, y7⟩, hGy⟩ := hCb
        have y4b := y4
        obtain ⟨hBy, -, hWy, hIy, hOy⟩ := y4b
        have hByb := hBy
        obtain ⟨t1, ⟨liy, t2, t2b⟩, ⟨aky, t3, t3b⟩, ⟨roy, t4, t4b⟩, ⟨acy, t5, t5b⟩, ⟨lfy, t6, t6b⟩, t7⟩ := hByb
        have f1w : fr B 1017 w w1 := q2.mono (by omega) (by omega)
        refine v_aload_n dX7_ask_43 rfl ?_
        refine v_get 2 dX7_ask_44 FTX7 (by decide) rfl fl_X7_26 y1 rfl ?_
        refine v_get 1 dX7_ask_47 FTX4 (by decide) rfl fl_X7_70 t1 rfl ?_
        refine v_iload_n dX7_ask_50 rfl ?_
        refine v_dup2 dX7_ask_51 rfl rfl ?_
        refine v_ialdE _ dX7_ask_52 t3 rfl (by omega) (by decide) ((t3b a ha).trans (rcS_0 (by omega))) ?_
        refine v_iconst (v := nI 1) dX7_ask_53 (by decide) ?_
        refine v_iload_n dX7_ask_54 rfl ?_
        refine v_ishl dX7_ask_55 ?_
        refine v_ixor dX7_ask_56 ?_
        refine v_iast _ dX7_ask_57 t3 rfl (by omega) (by decide) ?_
        have q3 := SR_ask (y := (σ (8 + a) ^^^ (nI 1 <<< (nI b &&& 31)))) y4 ha hub t3b
        refine v_aload_n dX7_ask_58 rfl ?_
        refine v_get 2 dX7_ask_59 FTX7 (by decide) rfl fl_X7_26 ((wu_ne _ _ (by omega)).trans y1) rfl ?_
        refine v_get 1 dX7_ask_62 FTX4 (by decide) rfl fl_X7_70 ((wu_ne _ _ (by omega)).trans t1) rfl ?_
        refine v_iload_n dX7_ask_65 rfl ?_
        refine v_ialdE _ dX7_ask_66 (wu_eq _ _ _) rfl (by omega) (by decide) (up_eq _ _ _) ?_
        refine u_rS1 oJ6_bitCount_0f7a4 dX7_ask_67 ml_X7_73 (by have := c_bitCount (w := wu w1 (B + 6 + 2) (ia 1 4 (upd aky a (σ (8 + a) ^^^ (nI 1 <<< (nI b &&& 31)))))) (σ (8 + a) ^^^ (nI 1 <<< (nI b &&& 31))); exact this) (by decide) (Nat.le_of_ble_eq_true rfl) (Nat.le_refl _) (Nat.le_refl _) ?_
        refine v_iret dX7_ask_70 rfl (Nat.le_refl _) (Nat.le_refl _) ?_
        rw [hbits]
        have e : askR σ ns (nI a) (nI b) t = (bitsI (σ (8 + a) ^^^ (nI 1 <<< (nI b &&& 31))), rcn ns, upd (rcS σ ns) (8 + a) (σ (8 + a) ^^^ (nI 1 <<< (nI b &&& 31)))) := by
          unfold askR
          rw [if_pos hgg, nt_nI (n := a) (by omega), nt_nI (n := b) (by omega), if_neg (fun z => b26 (by rw [z]))]
        rw [e]
        exact ⟨rfl, CQ.mk (CR_st hC q3 ((fr.rf _ _ _).wu _ (by omega) (by omega)) (fun q hq => up_ne _ _ (by omega))) (f1w.wu _ (by omega) (by omega))⟩
      ·
        refine v_bipush (v := -5) dX7_ask_29 (by decide) ?_
        refine v_iret dX7_ask_31 rfl (Nat.le_refl _) (Nat.le_refl _) ?_
        have e : askR σ ns (nI a) (nI b) t = (-5, ns, σ) := by
          unfold askR
          rw [if_pos hgg, nt_nI (n := a) (by omega), nt_nI (n := b) (by omega), if_pos (b2i_inj b26)]
        rw [e]
        exact ⟨rfl, CQ.mk h (fr.rf _ _ _)⟩
    ·
      exact absurd hgb (by rw [b11]; decide)
theorem k_ask {w : Wd} {B ns tn : Nat} {σ tx : Nat → Int32} {k : Bool} (h : CR w B σ ns k tx tn) (x y : Int32) (t : Bool) : Wr mX7_ask 6 [.ref B, .int x, .int y, .int (b2i t)] w (CQ w B k tx tn (askR σ ns x y t)) := by
  by_cases hg : (inB x 3 && inB y 2) = false
  · exact k_ask_no h x y t hg
  have h2 := bfalse hg
  simp only [Bool.and_eq_true] at h2
  have hx := inB_ub (by omega) h2.1
  have hy := inB_ub (by omega) h2.2
  rw [hx.1, hy.1]
  exact k_askN h (nt x) (nt y) hx.2 hy.2 t
set_option maxHeartbeats 1000000 in
set_option maxRecDepth 100000 in
theorem k_bring_no {w : Wd} {B ns tn : Nat} {σ tx : Nat → Int32} {k : Bool} (h : CR w B σ ns k tx tn) (x y : Int32) (hg : (inB x 7 && inB y 3) = false) : Wr mX7_bring 6 [.ref B, .int x, .int y] w (CQ w B k tx tn (bringR σ ns x y)) := by
  intro sz
  refine Ev.ofV [some (.ref B), some (.int x), some (.int y)] (by decide) (Nat.le_of_ble_eq_true rfl) rfl rfl rfl ?_
  have h00 := h
  obtain ⟨nx, hh, gk, hX, hG⟩ := h00
  have hXb := hX
  obtain ⟨x1, x2, ⟨f0, n0, x3⟩, x4, x5, x6, R0, x7⟩ := hXb
  have hS0 := x4
  obtain ⟨hB, ⟨n, π, κ, hRR⟩, hW, hI, hO⟩ := hS0
  have hBb := hB
  obtain ⟨s1, ⟨li, s2, s2b⟩, ⟨ak, s3, s3b⟩, ⟨ro, s4, s4b⟩, ⟨ac, s5, s5b⟩, ⟨lf, s6, s6b⟩, s7⟩ := hBb
  have hRb := hRR
  obtain ⟨⟨F, r1, r2, r3⟩, hK, hP, hS, hR⟩ := hRb
  have x5b := x5
  obtain ⟨⟨hf, v1, v2, v3⟩, hns, hnx, v4⟩ := x5b
  refine v_iload_n dX7_bring_0 rfl ?_
  refine u_rS1 oX7_isWork dX7_bring_1 ml_X7_79 (c_isWork x) (by decide) (Nat.le_of_ble_eq_true rfl) (Nat.le_refl _) (Nat.le_refl _) ?_
  refine v_if_eqB (tgt := 14) dX7_bring_4 (by decide) (fun b4 => ?_) (fun b4 => ?_)
  ·
    refine v_iconst (v := -1) dX7_bring_14 (by decide) ?_
    refine v_iret dX7_bring_15 rfl (Nat.le_refl _) (Nat.le_refl _) ?_
    have e : bringR σ ns x y = (-1, ns, σ) := by
      unfold bringR
      rw [if_neg (by rw [hg]; decide)]
    rw [e]
    exact ⟨rfl, CQ.mk h (fr.rf _ _ _)⟩
  ·
    refine v_iload_n dX7_bring_7 rfl ?_
    refine u_rS1 oX7_isRoom dX7_bring_8 ml_X7_48 (c_isRoom y) (by decide) (Nat.le_of_ble_eq_true rfl) (Nat.le_refl _) (Nat.le_refl _) ?_
    refine v_if_neB (tgt := 16) dX7_bring_11 (by decide) (fun b11 => ?_) (fun b11 => ?_)
    ·
      exact absurd hg (by rw [b4, b11]; decide)
    ·
      refine v_iconst (v := -1) dX7_bring_14 (by decide) ?_
      refine v_iret dX7_bring_15 rfl (Nat.le_refl _) (Nat.le_refl _) ?_
      have e : bringR σ ns x y = (-1, ns, σ) := by
        unfold bringR
        rw [if_neg (by rw [hg]; decide)]
      rw [e]
      exact ⟨rfl, CQ.mk h (fr.rf _ _ _)⟩
set_option maxHeartbeats 1000000 in
set_option maxRecDepth 100000 in
theorem k_bringN {w : Wd} {B ns tn : Nat} {σ tx : Nat → Int32} {k : Bool} (h : CR w B σ ns k tx tn) (a b : Nat) (ha : a < 8) (hb : b < 4) : Wr mX7_bring 6 [.ref B, .int (nI a), .int (nI b)] w (CQ w B k tx tn (bringR σ ns (nI a) (nI b))) := by
  intro sz
  refine Ev.ofV [some (.ref B), some (.int (nI a)), some (.int (nI b))] (by decide) (Nat.le_of_ble_eq_true rfl) rfl rfl rfl ?_
  have h00 := h
  obtain ⟨nx, hh, gk, hX, hG⟩ := h00
  have hXb := hX
  obtain ⟨x1, x2, ⟨f0, n0, x3⟩, x4, x5, x6, R0, x7⟩ := hXb
  have hS0 := x4
  obtain ⟨hB, ⟨n, π, κ, hRR⟩, hW, hI, hO⟩ := hS0
  have hBb := hB
  obtain ⟨s1, ⟨li, s2, s2b⟩, ⟨ak, s3, s3b⟩, ⟨ro, s4, s4b⟩, ⟨ac, s5, s5b⟩, ⟨lf, s6, s6b⟩, s7⟩ := hBb
  have hRb := hRR
  obtain ⟨⟨F, r1, r2, r3⟩, hK, hP, hS, hR⟩ := hRb
  have x5b := x5
  obtain ⟨⟨hf, v1, v2, v3⟩, hns, hnx, v4⟩ := x5b
  have hga : inB (nI a) 7 = true := by rw [inB_nI (by omega) (by omega)]; simp; omega
  have hgb : inB (nI b) 3 = true := by rw [inB_nI (by omega) (by omega)]; simp; omega
  have hgg : (inB (nI a) 7 && inB (nI b) 3) = true := by rw [hga, hgb]; rfl
  have hlm : limW (upd (rcS σ ns) a (nI b)) a = (nt (rcS σ ns (12 + b))) := by
    unfold limW
    rw [up_eq, nt_nI (n := b) (by omega), up_ne _ _ (by omega)]
  refine v_iload_n dX7_bring_0 rfl ?_
  refine u_rS1 oX7_isWork dX7_bring_1 ml_X7_79 (c_isWork (nI a)) (by decide) (Nat.le_of_ble_eq_true rfl) (Nat.le_refl _) (Nat.le_refl _) ?_
  refine v_if_eqB (tgt := 14) dX7_bring_4 (by decide) (fun b4 => ?_) (fun b4 => ?_)
  ·
    exact absurd hga (by rw [b4]; decide)
  ·
    refine v_iload_n dX7_bring_7 rfl ?_
    refine u_rS1 oX7_isRoom dX7_bring_8 ml_X7_48 (c_isRoom (nI b)) (by decide) (Nat.le_of_ble_eq_true rfl) (Nat.le_refl _) (Nat.le_refl _) ?_
    refine v_if_neB (tgt := 16) dX7_bring_11 (by decide) (fun b11 => ?_) (fun b11 => ?_)
    ·
      refine v_aload_n dX7_bring_16 rfl ?_
      refine v_get 2 dX7_bring_17 FTX7 (by decide) rfl fl_X7_26 x1 rfl ?_
      refine v_get 2 dX7_bring_20 FTX4 (by decide) rfl fl_X7_82 s1 rfl ?_
      refine v_iload_n dX7_bring_23 rfl ?_
      refine v_ialdE _ dX7_bring_24 s4 rfl (by omega) (by decide) (s4b a ha) ?_
      refine v_iload_n dX7_bring_25 rfl ?_
      refine v_icmp_ne (tgt := 32) dX7_bring_26 (by decide) (fun b26 => ?_) (fun b26 => ?_)
      ·
        refine v_aload_n dX7_bring_32 rfl ?_
        refine v_get 3 dX7_bring_33 FTX7 (by decide) rfl fl_X7_33 x1 rfl ?_
        refine v_aload_n dX7_bring_36 rfl ?_
        refine v_get 2 dX7_bring_37 FTX7 (by decide) rfl fl_X7_26 x1 rfl ?_
        refine v_wV1 oX0_push dX7_bring_40 ml_X7_55 (c_push x5 x4 (by omega)) v1 (by decide) (Nat.le_of_ble_eq_true rfl) (Nat.le_refl _) (Nat.le_refl _) (fun r' w1 hq => ?_)
        obtain ⟨rfl, q1, q2⟩ := hq
        have hC := CR_push hX hG q1 q2
        have hCb := hC
        obtain ⟨ny, hy, gy, ⟨y1, y2, ⟨f1, m1, y3⟩, y4, y5, y6, R1, y7⟩, hGy⟩ := hCb
        have y4b := y4
        obtain ⟨hBy, -, hWy, hIy, hOy⟩ := y4b
        have hByb := hBy
        obtain ⟨t1, ⟨liy, t2, t2b⟩, ⟨aky, t3, t3b⟩, ⟨roy, t4, t4b⟩, ⟨acy, t5, t5b⟩, ⟨lfy, t6, t6b⟩, t7⟩ := hByb
        have f1w : fr B 1017 w w1 := q2.mono (by omega) (by omega)
        refine v_aload_n dX7_bring_43 rfl ?_
        refine v_get 2 dX7_bring_44 FTX7 (by decide) rfl fl_X7_26 y1 rfl ?_
        refine v_get 2 dX7_bring_47 FTX4 (by decide) rfl fl_X7_82 t1 rfl ?_
        refine v_iload_n dX7_bring_50 rfl ?_
        refine v_iload_n dX7_bring_51 rfl ?_
        refine v_iast _ dX7_bring_52 t4 rfl (by omega) (by decide) ?_
        have q3 := SR_room (y := nI b) y4 ha (ub_nI hb (by omega)) t4b
        refine v_aload_n dX7_bring_53 rfl ?_
        refine v_get 2 dX7_bring_54 FTX7 (by decide) rfl fl_X7_26 ((wu_ne _ _ (by omega)).trans y1) rfl ?_
        refine v_iload_n dX7_bring_57 rfl ?_
        refine v_wV1 oX4_cutLabelsOf dX7_bring_58 ml_X7_85 (c_cutLabelsOf q3 a ha) ((wu_ne _ _ (by omega)).trans t1) (by decide) (Nat.le_of_ble_eq_true rfl) (Nat.le_refl _) (Nat.le_refl _) (fun r' w2 hq => ?_)
        obtain ⟨rfl, q5, q4⟩ := hq
        rw [hlm] at q5
        refine v_iret dX7_bring_61 rfl (Nat.le_refl _) (Nat.le_refl _) ?_
        rw [hlm]
        have e : bringR σ ns (nI a) (nI b) = (nI (caN (upd (rcS σ ns) a (nI b)) a (nt (rcS σ ns (12 + b))) 3), rcn ns, caS (upd (rcS σ ns) a (nI b)) a (nt (rcS σ ns (12 + b))) 3) := by
          unfold bringR
          rw [if_pos hgg, nt_nI (n := a) (by omega), nt_nI (n := b) (by omega), if_neg b26]
        rw [e]
        exact ⟨rfl, CQ.mk (CR_st hC q5 (((fr.rf _ _ _).wu _ (by omega) (by omega)).tr q4) (fun q hq => (caS_out (by omega) 3 (fun c hc => ⟨by omega, by omega⟩)).trans (up_ne _ _ (by omega)))) ((f1w.wu _ (by omega) (by omega)).tr (q4.mono (by omega) (by omega)))⟩
      ·
        refine v_bipush (v := -5) dX7_bring_29 (by decide) ?_
        refine v_iret dX7_bring_31 rfl (Nat.le_refl _) (Nat.le_refl _) ?_
        have e : bringR σ ns (nI a) (nI b) = (-5, ns, σ) := by
          unfold bringR
          rw [if_pos hgg, nt_nI (n := a) (by omega), if_pos b26]
        rw [e]
        exact ⟨rfl, CQ.mk h (fr.rf _ _ _)⟩
    ·
      exact absurd hgb (by rw [b11]; decide)
theorem k_bring {w : Wd} {B ns tn : Nat} {σ tx : Nat → Int32} {k : Bool} (h : CR w B σ ns k tx tn) (x y : Int32) : Wr mX7_bring 6 [.ref B, .int x, .int y] w (CQ w B k tx tn (bringR σ ns x y)) := by
  by_cases hg : (inB x 7 && inB y 3) = false
  · exact k_bring_no h x y hg
  have h2 := bfalse hg
  simp only [Bool.and_eq_true] at h2
  have hx := inB_ub (by omega) h2.1
  have hy := inB_ub (by omega) h2.2
  rw [hx.1, hy.1]
  exact k_bringN h (nt x) (nt y) hx.2 hy.2
theorem need_ub {y : Int32} (g : nI 1 ≤ y ∧ y ≤ nI 9) : ub y 10 ∧ 1 ≤ nt y := by
  have h1 := Int32.le_iff_toInt_le.mp g.1
  have h2 := Int32.le_iff_toInt_le.mp g.2
  rw [nI_toInt (by omega)] at h1 h2
  have h3 : nt y = y.toInt.toNat := rfl
  have h4 : y = nI (nt y) := by
    apply Int32.toInt_inj.mp
    rw [nI_toInt (by omega), h3]
    omega
  exact ⟨⟨h4, by omega⟩, by omega⟩
theorem SR_need {w : Wd} {S : Nat} {g : Nat → Int32} {y : Int32} (h : SR w S g) (hy : ub y 10 ∧ 1 ≤ nt y) : SR (wu w S (s4o S y (g 17) (g 19) (g 20) (g 21))) S (upd g 16 y) := by
  have e : ∀ q, q ≠ 16 → upd g 16 y q = g q := fun q hq => up_ne _ _ hq
  refine SR_lo h ?_ (WS_row h.2.2.1 (Or.inr (Or.inr ⟨rfl, hy⟩))) (fun q h1 h2 => wu_ne _ _ (by omega)) (fun q hq => e q (by omega))
  show SBx _ S _ (upd g 16 y 16) (upd g 16 y 17) (upd g 16 y 19) (upd g 16 y 20) (upd g 16 y 21)
  rw [up_eq, e 17 (by omega), e 19 (by omega), e 20 (by omega), e 21 (by omega)]
  exact (SBx_set h.1 _ _ _ _ _).congr (fun q hq => e q (by omega))
set_option maxHeartbeats 1000000 in
set_option maxRecDepth 100000 in
theorem k_setNeeded {w : Wd} {B ns tn : Nat} {σ tx : Nat → Int32} {k : Bool} (h : CR w B σ ns k tx tn) (y : Int32) : Wr mX7_setNeeded 6 [.ref B, .int y] w (CQ w B k tx tn (setNeededR σ ns y)) := by
  intro sz
  refine Ev.ofV [some (.ref B), some (.int y), none] (by decide) (Nat.le_of_ble_eq_true rfl) rfl rfl rfl ?_
  have h00 := h
  obtain ⟨nx, hh, gk, hX, hG⟩ := h00
  have hXb := hX
  obtain ⟨x1, x2, ⟨f0, n0, x3⟩, x4, x5, x6, R0, x7⟩ := hXb
  have hS0 := x4
  obtain ⟨hB, ⟨n, π, κ, hRR⟩, hW, hI, hO⟩ := hS0
  have hBb := hB
  obtain ⟨s1, ⟨li, s2, s2b⟩, ⟨ak, s3, s3b⟩, ⟨ro, s4, s4b⟩, ⟨ac, s5, s5b⟩, ⟨lf, s6, s6b⟩, s7⟩ := hBb
  have hRb := hRR
  obtain ⟨⟨F, r1, r2, r3⟩, hK, hP, hS, hR⟩ := hRb
  have x5b := x5
  obtain ⟨⟨hf, v1, v2, v3⟩, hns, hnx, v4⟩ := x5b
  refine v_iload_n dX7_setNeeded_0 rfl ?_
  refine v_iconst (v := nI 1) dX7_setNeeded_1 (by decide) ?_
  refine v_icmp_lt (tgt := 11) dX7_setNeeded_2 (by decide) (fun b2 => ?_) (fun b2 => ?_)
  ·
    refine v_bipush (v := -2) dX7_setNeeded_11 (by decide) ?_
    refine v_iret dX7_setNeeded_13 rfl (Nat.le_refl _) (Nat.le_refl _) ?_
    have e : setNeededR σ ns y = (-2, ns, σ) := by
      unfold setNeededR
      rw [if_neg (fun z => Int32.not_lt.mpr z.1 b2)]
    rw [e]
    exact ⟨rfl, CQ.mk h (fr.rf _ _ _)⟩
  ·
    refine v_iload_n dX7_setNeeded_5 rfl ?_
    refine v_bipush (v := nI 9) dX7_setNeeded_6 (by decide) ?_
    refine v_icmp_le (tgt := 14) dX7_setNeeded_8 (by decide) (fun b8 => ?_) (fun b8 => ?_)
    ·
      refine v_aload_n dX7_setNeeded_14 rfl ?_
      refine v_get 2 dX7_setNeeded_15 FTX7 (by decide) rfl fl_X7_26 x1 rfl ?_
      refine v_get 6 dX7_setNeeded_18 FTX4 (by decide) rfl fl_X7_125 s1 rfl ?_
      refine v_iload_n dX7_setNeeded_21 rfl ?_
      refine v_icmp_ne (tgt := 28) dX7_setNeeded_22 (by decide) (fun b22 => ?_) (fun b22 => ?_)
      ·
        refine v_aload_n dX7_setNeeded_28 rfl ?_
        refine v_get 3 dX7_setNeeded_29 FTX7 (by decide) rfl fl_X7_33 x1 rfl ?_
        refine v_aload_n dX7_setNeeded_32 rfl ?_
        refine v_get 2 dX7_setNeeded_33 FTX7 (by decide) rfl fl_X7_26 x1 rfl ?_
        refine v_wV1 oX0_push dX7_setNeeded_36 ml_X7_55 (c_push x5 x4 (by omega)) v1 (by decide) (Nat.le_of_ble_eq_true rfl) (Nat.le_refl _) (Nat.le_refl _) (fun r' w1 hq => ?_)
        obtain ⟨rfl, q1, q2⟩ := hq
        have hC := CR_push hX hG q1 q2
        have hCb := hC
        obtain ⟨ny, hy, gy, ⟨y1, y2, ⟨f1, m1, y3⟩, y4, y5, y6, R1, y7⟩, hGy⟩ := hCb
        have y4b := y4
        obtain ⟨hBy, -, hWy, hIy, hOy⟩ := y4b
        have hByb := hBy
        obtain ⟨t1, ⟨liy, t2, t2b⟩, ⟨aky, t3, t3b⟩, ⟨roy, t4, t4b⟩, ⟨acy, t5, t5b⟩, ⟨lfy, t6, t6b⟩, t7⟩ := hByb
        have f1w : fr B 1017 w w1 := q2.mono (by omega) (by omega)
        refine v_aload_n dX7_setNeeded_39 rfl ?_
        refine v_get 2 dX7_setNeeded_40 FTX7 (by decide) rfl fl_X7_26 y1 rfl ?_
        refine v_get 6 dX7_setNeeded_43 FTX4 (by decide) rfl fl_X7_125 t1 rfl ?_
        refine v_istore_n dX7_setNeeded_46 (by decide) rfl ?_
        refine v_aload_n dX7_setNeeded_47 rfl ?_
        refine v_get 2 dX7_setNeeded_48 FTX7 (by decide) rfl fl_X7_26 y1 rfl ?_
        refine v_iload_n dX7_setNeeded_51 rfl ?_
        refine v_put 6 dX7_setNeeded_52 FTX4 (by decide) rfl fl_X7_125 t1 rfl rfl (Nat.le_of_ble_eq_true rfl) rfl ?_
        have q3 := SR_need (y := y) y4 (need_ub ⟨Int32.not_lt.mp b2, b8⟩)
        refine v_iload_n dX7_setNeeded_55 rfl ?_
        refine v_iret dX7_setNeeded_56 rfl (Nat.le_refl _) (Nat.le_refl _) ?_
        rw [show rcS σ ns 16 = σ 16 from rcS_0 (by omega)]
        have e : setNeededR σ ns y = (σ 16, rcn ns, upd (rcS σ ns) 16 y) := by
          unfold setNeededR
          rw [if_pos ⟨Int32.not_lt.mp b2, b8⟩, if_neg b22]
        rw [e]
        exact ⟨rfl, CQ.mk (CR_st hC q3 ((fr.rf _ _ _).wu _ (by omega) (by omega)) (fun q hq => up_ne _ _ (by omega))) (f1w.wu _ (by omega) (by omega))⟩
      ·
        refine v_bipush (v := -5) dX7_setNeeded_25 (by decide) ?_
        refine v_iret dX7_setNeeded_27 rfl (Nat.le_refl _) (Nat.le_refl _) ?_
        have e : setNeededR σ ns y = (-5, ns, σ) := by
          unfold setNeededR
          rw [if_pos ⟨Int32.not_lt.mp b2, b8⟩, if_pos b22]
        rw [e]
        exact ⟨rfl, CQ.mk h (fr.rf _ _ _)⟩
    ·
      refine v_bipush (v := -2) dX7_setNeeded_11 (by decide) ?_
      refine v_iret dX7_setNeeded_13 rfl (Nat.le_refl _) (Nat.le_refl _) ?_
      have e : setNeededR σ ns y = (-2, ns, σ) := by
        unfold setNeededR
        rw [if_neg (fun z => b8 z.2)]
      rw [e]
      exact ⟨rfl, CQ.mk h (fr.rf _ _ _)⟩
set_option maxHeartbeats 1000000 in
set_option maxRecDepth 100000 in
theorem k_takeDown_no {w : Wd} {B ns tn : Nat} {σ tx : Nat → Int32} {k : Bool} (h : CR w B σ ns k tx tn) (x y : Int32) (hg : (inB x 7 && inB y 2) = false) : Wr mX7_takeDown 6 [.ref B, .int x, .int y] w (CQ w B k tx tn (takeDownR σ ns x y)) := by
  intro sz
  refine Ev.ofV [some (.ref B), some (.int x), some (.int y), none, none] (by decide) (Nat.le_of_ble_eq_true rfl) rfl rfl rfl ?_
  have h00 := h
  obtain ⟨nx, hh, gk, hX, hG⟩ := h00
  have hXb := hX
  obtain ⟨x1, x2, ⟨f0, n0, x3⟩, x4, x5, x6, R0, x7⟩ := hXb
  have hS0 := x4
  obtain ⟨hB, ⟨n, π, κ, hRR⟩, hW, hI, hO⟩ := hS0
  have hBb := hB
  obtain ⟨s1, ⟨li, s2, s2b⟩, ⟨ak, s3, s3b⟩, ⟨ro, s4, s4b⟩, ⟨ac, s5, s5b⟩, ⟨lf, s6, s6b⟩, s7⟩ := hBb
  have hRb := hRR
  obtain ⟨⟨F, r1, r2, r3⟩, hK, hP, hS, hR⟩ := hRb
  have x5b := x5
  obtain ⟨⟨hf, v1, v2, v3⟩, hns, hnx, v4⟩ := x5b
  refine v_iload_n dX7_takeDown_0 rfl ?_
  refine u_rS1 oX7_isWork dX7_takeDown_1 ml_X7_79 (c_isWork x) (by decide) (Nat.le_of_ble_eq_true rfl) (Nat.le_refl _) (Nat.le_refl _) ?_
  refine v_if_eqB (tgt := 14) dX7_takeDown_4 (by decide) (fun b4 => ?_) (fun b4 => ?_)
  ·
    refine v_iconst (v := -1) dX7_takeDown_14 (by decide) ?_
    refine v_iret dX7_takeDown_15 rfl (Nat.le_refl _) (Nat.le_refl _) ?_
    have e : takeDownR σ ns x y = (-1, ns, σ) := by
      unfold takeDownR
      rw [if_neg (by rw [hg]; decide)]
    rw [e]
    exact ⟨rfl, CQ.mk h (fr.rf _ _ _)⟩
  ·
    refine v_iload_n dX7_takeDown_7 rfl ?_
    refine u_rS1 oX7_isTongue dX7_takeDown_8 ml_X7_63 (c_isTongue y) (by decide) (Nat.le_of_ble_eq_true rfl) (Nat.le_refl _) (Nat.le_refl _) ?_
    refine v_if_neB (tgt := 16) dX7_takeDown_11 (by decide) (fun b11 => ?_) (fun b11 => ?_)
    ·
      exact absurd hg (by rw [b4, b11]; decide)
    ·
      refine v_iconst (v := -1) dX7_takeDown_14 (by decide) ?_
      refine v_iret dX7_takeDown_15 rfl (Nat.le_refl _) (Nat.le_refl _) ?_
      have e : takeDownR σ ns x y = (-1, ns, σ) := by
        unfold takeDownR
        rw [if_neg (by rw [hg]; decide)]
      rw [e]
      exact ⟨rfl, CQ.mk h (fr.rf _ _ _)⟩
theorem SR_lab {w w' : Wd} {S p : Nat} {g s : Nat → Int32} (h : SR w S g) (hp : p < 24) (hl : LbR w' (S + 72 + 4 * p) s p) (hf : fr (S + 72 + 4 * p) 4 w w') (hW : WS s) (e : ∀ q, (q < 272 ∨ 1808 ≤ q ∨ (q < 272 + 64 * p ∨ 272 + 64 * p + 64 ≤ q)) → s q = g q) : SR w' S s := by
  refine SR_lo h ?_ hW (fun q h1 h2 => hf q (by omega)) (fun q hq => e q (by omega))
  show SBx _ S _ (s 16) (s 17) (s 19) (s 20) (s 21)
  rw [e 16 (by omega), e 17 (by omega), e 19 (by omega), e 20 (by omega), e 21 (by omega)]
  exact SBx_lab h.1 hp hl hf (fun q hq => e q (by omega))
set_option maxHeartbeats 1000000 in
set_option maxRecDepth 100000 in
theorem k_takeDownN {w : Wd} {B ns tn : Nat} {σ tx : Nat → Int32} {k : Bool} (h : CR w B σ ns k tx tn) (a b : Nat) (ha : a < 8) (hb : b < 3) : Wr mX7_takeDown 6 [.ref B, .int (nI a), .int (nI b)] w (CQ w B k tx tn (takeDownR σ ns (nI a) (nI b))) := by
  intro sz
  refine Ev.ofV [some (.ref B), some (.int (nI a)), some (.int (nI b)), none, none] (by decide) (Nat.le_of_ble_eq_true rfl) rfl rfl rfl ?_
  have h00 := h
  obtain ⟨nx, hh, gk, hX, hG⟩ := h00
  have hXb := hX
  obtain ⟨x1, x2, ⟨f0, n0, x3⟩, x4, x5, x6, R0, x7⟩ := hXb
  have hS0 := x4
  obtain ⟨hB, ⟨n, π, κ, hRR⟩, hW, hI, hO⟩ := hS0
  have hBb := hB
  obtain ⟨s1, ⟨li, s2, s2b⟩, ⟨ak, s3, s3b⟩, ⟨ro, s4, s4b⟩, ⟨ac, s5, s5b⟩, ⟨lf, s6, s6b⟩, s7⟩ := hBb
  have hRb := hRR
  obtain ⟨⟨F, r1, r2, r3⟩, hK, hP, hS, hR⟩ := hRb
  have x5b := x5
  obtain ⟨⟨hf, v1, v2, v3⟩, hns, hnx, v4⟩ := x5b
  have hga : inB (nI a) 7 = true := by rw [inB_nI (by omega) (by omega)]; simp; omega
  have hgb : inB (nI b) 2 = true := by rw [inB_nI (by omega) (by omega)]; simp; omega
  have hgg : (inB (nI a) 7 && inB (nI b) 2) = true := by rw [hga, hgb]; rfl
  obtain ⟨vi, hl, hv⟩ := s7 (3 * a + b) (by omega)
  refine v_iload_n dX7_takeDown_0 rfl ?_
  refine u_rS1 oX7_isWork dX7_takeDown_1 ml_X7_79 (c_isWork (nI a)) (by decide) (Nat.le_of_ble_eq_true rfl) (Nat.le_refl _) (Nat.le_refl _) ?_
  refine v_if_eqB (tgt := 14) dX7_takeDown_4 (by decide) (fun b4 => ?_) (fun b4 => ?_)
  ·
    exact absurd hga (by rw [b4]; decide)
  ·
    refine v_iload_n dX7_takeDown_7 rfl ?_
    refine u_rS1 oX7_isTongue dX7_takeDown_8 ml_X7_63 (c_isTongue (nI b)) (by decide) (Nat.le_of_ble_eq_true rfl) (Nat.le_refl _) (Nat.le_refl _) ?_
    refine v_if_neB (tgt := 16) dX7_takeDown_11 (by decide) (fun b11 => ?_) (fun b11 => ?_)
    ·
      refine v_aload_n dX7_takeDown_16 rfl ?_
      refine v_get 2 dX7_takeDown_17 FTX7 (by decide) rfl fl_X7_26 x1 rfl ?_
      refine v_get 4 dX7_takeDown_20 FTX4 (by decide) rfl fl_X7_91 s1 rfl ?_
      refine v_iload_n dX7_takeDown_23 rfl ?_
      refine v_iload_n dX7_takeDown_24 rfl ?_
      refine u_rS2 oX7_placeOf dX7_takeDown_25 ml_X7_95 (c_place7 a b) (by decide) (Nat.le_of_ble_eq_true rfl) (Nat.le_refl _) (Nat.le_refl _) ?_
      refine v_aald _ (by decide) dX7_takeDown_28 s6 rfl (by omega) (by decide) (s6b (3 * a + b) (by omega)) ?_
      refine v_astore_n dX7_takeDown_29 (by decide) rfl ?_
      refine v_aload_n dX7_takeDown_30 rfl ?_
      refine u_rV0 oX1_stands dX7_takeDown_31 ml_X7_118 (c_stands hl) hl.1 (by decide) (Nat.le_of_ble_eq_true rfl) (Nat.le_refl _) (Nat.le_refl _) ?_
      refine v_if_neB (tgt := 40) dX7_takeDown_34 (by decide) (fun b34 => ?_) (fun b34 => ?_)
      ·
        have c34 := of_decide_eq_true b34
        refine v_aload_n dX7_takeDown_40 rfl ?_
        refine v_get 3 dX7_takeDown_41 FTX7 (by decide) rfl fl_X7_33 x1 rfl ?_
        refine v_aload_n dX7_takeDown_44 rfl ?_
        refine v_get 2 dX7_takeDown_45 FTX7 (by decide) rfl fl_X7_26 x1 rfl ?_
        refine v_wV1 oX0_push dX7_takeDown_48 ml_X7_55 (c_push x5 x4 (by omega)) v1 (by decide) (Nat.le_of_ble_eq_true rfl) (Nat.le_refl _) (Nat.le_refl _) (fun r' w1 hq => ?_)
        obtain ⟨rfl, q1, q2⟩ := hq
        have hC := CR_push hX hG q1 q2
        have hCb := hC
        obtain ⟨ny, hy, gy, ⟨y1, y2, ⟨f1, m1, y3⟩, y4, y5, y6, R1, y7⟩, hGy⟩ := hCb
        have y4b := y4
        obtain ⟨hBy, -, hWy, hIy, hOy⟩ := y4b
        have hByb := hBy
        obtain ⟨t1, ⟨liy, t2, t2b⟩, ⟨aky, t3, t3b⟩, ⟨roy, t4, t4b⟩, ⟨acy, t5, t5b⟩, ⟨lfy, t6, t6b⟩, t7⟩ := hByb
        have f1w : fr B 1017 w w1 := q2.mono (by omega) (by omega)
        obtain ⟨v2, hl2, hv2⟩ := t7 (3 * a + b) (by omega)
        refine v_aload_n dX7_takeDown_51 rfl ?_
        refine v_get 0 dX7_takeDown_52 FTX1 (by decide) rfl fl_X7_98 hl2.1 rfl ?_
        refine v_get 3 dX7_takeDown_55 FTX6 (by decide) rfl fl_X7_115 hl2.2.at rfl ?_
        refine v_istore dX7_takeDown_58 (by decide) rfl ?_
        refine v_aload_n dX7_takeDown_60 rfl ?_
        refine v_get 0 dX7_takeDown_61 FTX1 (by decide) rfl fl_X7_98 hl2.1 rfl ?_
        refine v_wV0 oX6_empty dX7_takeDown_64 ml_X7_122 (c_empty hl2.2) hl2.2.at (by decide) (Nat.le_of_ble_eq_true rfl) (Nat.le_refl _) (Nat.le_refl _) (fun r' w2 hq => ?_)
        obtain ⟨rfl, q3, q4⟩ := hq
        have e9 : ∀ q, q ≠ 272 + 64 * (3 * a + b) → upd (rcS σ ns) (272 + 64 * (3 * a + b)) (nI 0) q = rcS σ ns q := fun q hq => up_ne _ _ hq
        have hL : LbR w2 (B + 6 + 72 + 4 * (3 * a + b)) (upd (rcS σ ns) (272 + 64 * (3 * a + b)) (nI 0)) (3 * a + b) := by
          unfold LbR
          rw [up_eq, e9 _ (by omega), e9 _ (by omega), nt_nI (n := 0) (by omega)]
          exact ⟨v2, ⟨(q4 _ (by omega)).trans hl2.1, q3 _⟩, fun z => absurd z (Nat.lt_irrefl _)⟩
        have q4b : fr (B + 6 + 72 + 4 * (3 * a + b)) 4 w1 w2 := q4.mono (by omega) (by omega)
        have q5 := SR_lab y4 (show (3 * a + b) < 24 by omega) hL q4b (WS_lab hWy (show (3 * a + b) < 24 by omega) (fun q hq => e9 q (by omega)) (fun q x1 x2 x3 => e9 q (by omega)) (by rw [up_eq, nt_nI (n := 0) (by omega)]; exact ⟨ub_nI (by omega) (by omega), Or.inl rfl⟩)) (fun q hq => e9 q (by omega))
        refine v_iload dX7_takeDown_67 rfl ?_
        refine v_iret dX7_takeDown_69 rfl (Nat.le_refl _) (Nat.le_refl _) ?_
        have e : takeDownR σ ns (nI a) (nI b) = (nI (nwl (rcS σ ns) (3 * a + b)), rcn ns, upd (rcS σ ns) (272 + 64 * (3 * a + b)) (nI 0)) := by
          unfold takeDownR
          rw [if_pos hgg, nt_nI (n := a) (by omega), nt_nI (n := b) (by omega), if_pos (by unfold ln; omega)]
        rw [e]
        exact ⟨rfl, CQ.mk (CR_st hC q5 (q4b.mono (by omega) (by omega)) (fun q hq => e9 q (by omega))) (f1w.tr (q4b.mono (by omega) (by omega)))⟩
      ·
        have c34 := of_decide_eq_false b34
        refine v_bipush (v := -5) dX7_takeDown_37 (by decide) ?_
        refine v_iret dX7_takeDown_39 rfl (Nat.le_refl _) (Nat.le_refl _) ?_
        have e : takeDownR σ ns (nI a) (nI b) = (-5, ns, σ) := by
          unfold takeDownR
          rw [if_pos hgg, nt_nI (n := a) (by omega), nt_nI (n := b) (by omega), if_neg (by unfold ln; omega)]
        rw [e]
        exact ⟨rfl, CQ.mk h (fr.rf _ _ _)⟩
    ·
      exact absurd hgb (by rw [b11]; decide)
theorem k_takeDown {w : Wd} {B ns tn : Nat} {σ tx : Nat → Int32} {k : Bool} (h : CR w B σ ns k tx tn) (x y : Int32) : Wr mX7_takeDown 6 [.ref B, .int x, .int y] w (CQ w B k tx tn (takeDownR σ ns x y)) := by
  by_cases hg : (inB x 7 && inB y 2) = false
  · exact k_takeDown_no h x y hg
  have h2 := bfalse hg
  simp only [Bool.and_eq_true] at h2
  have hx := inB_ub (by omega) h2.1
  have hy := inB_ub (by omega) h2.2
  rw [hx.1, hy.1]
  exact k_takeDownN h (nt x) (nt y) hx.2 hy.2
theorem ag_hi {s : Nat → Int32} {q : Nat} (hq : 2848 ≤ q) : ∀ i, i ≤ 16 → agS s i q = s q
  | 0, _ => rfl
  | i + 1, hi => by
    have ih := ag_hi (s := s) hq i (by omega)
    have e : agS s (i + 1) = agk (agS s i) i := rfl
    rw [e]
    unfold agk
    split
    · split
      · rw [up_ne _ _ (by omega), gone_out (by omega) (by omega), up_ne _ _ (by omega)]
        exact ih
      · rw [up_ne _ _ (by omega)]
        exact ih
    · exact ih
theorem wk_hi {g : Nat → Int32} (h : WS g) {q : Nat} (hq : 2848 ≤ q) : ∀ p, p ≤ 24 → wkS g p q = g q
  | 0, _ => rfl
  | p + 1, hp => by
    have ih := wk_hi h hq p (by omega)
    have hw := (wk_ok h p (by omega)).1
    cases hb : bst (wkS g p) p (nt (g 16)) (limW g (p / 3)) 16 with
    | none => rw [wkS_N hb]; exact ih
    | some k =>
      have hkc := bst_lt hb
      have hr := hw.rw hkc.1 (cand_0 hkc.2)
      have h5 := hr.2.2.2.2.1.2
      have hv := hr.2.2.1.2
      rw [wkS_S hb, ← ih]
      unfold accS
      have hk := hkc.1
      rw [gone_out (by omega) (by omega), ac1_out (by omega) (by omega) (by omega) hv]
set_option maxHeartbeats 1000000 in
set_option maxRecDepth 100000 in
theorem k_endWeek {w : Wd} {B ns tn : Nat} {σ tx : Nat → Int32} {k : Bool} (h : CR w B σ ns k tx tn) : Wr mX7_endWeek 6 [.ref B] w (CQ w B k tx tn (endWeekR σ ns)) := by
  intro sz
  refine Ev.ofV [some (.ref B)] (by decide) (Nat.le_of_ble_eq_true rfl) rfl rfl rfl ?_
  have h00 := h
  obtain ⟨nx, hh, gk, hX, hG⟩ := h00
  have hXb := hX
  obtain ⟨x1, x2, ⟨f0, n0, x3⟩, x4, x5, x6, R0, x7⟩ := hXb
  have hS0 := x4
  obtain ⟨hB, ⟨n, π, κ, hRR⟩, hW, hI, hO⟩ := hS0
  have hBb := hB
  obtain ⟨s1, ⟨li, s2, s2b⟩, ⟨ak, s3, s3b⟩, ⟨ro, s4, s4b⟩, ⟨ac, s5, s5b⟩, ⟨lf, s6, s6b⟩, s7⟩ := hBb
  have hRb := hRR
  obtain ⟨⟨F, r1, r2, r3⟩, hK, hP, hS, hR⟩ := hRb
  have x5b := x5
  obtain ⟨⟨hf, v1, v2, v3⟩, hns, hnx, v4⟩ := x5b
  refine v_aload_n dX7_endWeek_0 rfl ?_
  refine v_get 3 dX7_endWeek_1 FTX7 (by decide) rfl fl_X7_33 x1 rfl ?_
  refine v_aload_n dX7_endWeek_4 rfl ?_
  refine v_get 2 dX7_endWeek_5 FTX7 (by decide) rfl fl_X7_26 x1 rfl ?_
  refine v_wV1 oX0_push dX7_endWeek_8 ml_X7_55 (c_push x5 x4 (by omega)) v1 (by decide) (Nat.le_of_ble_eq_true rfl) (Nat.le_refl _) (Nat.le_refl _) (fun r' w1 hq => ?_)
  obtain ⟨rfl, q1, q2⟩ := hq
  have hC := CR_push hX hG q1 q2
  have hCb := hC
  obtain ⟨ny, hy, gy, ⟨y1, y2, ⟨f1, m1, y3⟩, y4, y5, y6, R1, y7⟩, hGy⟩ := hCb
  have y4b := y4
  obtain ⟨hBy, -, hWy, hIy, hOy⟩ := y4b
  have hByb := hBy
  obtain ⟨t1, ⟨liy, t2, t2b⟩, ⟨aky, t3, t3b⟩, ⟨roy, t4, t4b⟩, ⟨acy, t5, t5b⟩, ⟨lfy, t6, t6b⟩, t7⟩ := hByb
  have f1w : fr B 1017 w w1 := q2.mono (by omega) (by omega)
  refine v_aload_n dX7_endWeek_11 rfl ?_
  refine v_get 2 dX7_endWeek_12 FTX7 (by decide) rfl fl_X7_26 y1 rfl ?_
  refine v_wV0 oX4_passWeek dX7_endWeek_15 ml_X7_170 (c_passWeek y4) t1 (by decide) (Nat.le_of_ble_eq_true rfl) (Nat.le_refl _) (Nat.le_refl _) (fun r' w2 hq => ?_)
  obtain ⟨rfl, q3, q4⟩ := hq
  refine v_iret dX7_endWeek_18 rfl (Nat.le_refl _) (Nat.le_refl _) ?_
  exact ⟨rfl, CQ.mk (CR_st hC q3 q4 (fun q hq => by rw [up_ne _ _ (by omega), up_ne _ _ (by omega), ag_hi hq 16 (Nat.le_refl _), wk_hi hWy hq 24 (Nat.le_refl _)])) (f1w.tr (q4.mono (by omega) (by omega)))⟩
