theorem inB_T {x : Int32} {b : Nat} (hb : b < 2147483647) (h0 : ¬ x < 0) (h1 : ¬ nI (b + 1) ≤ x) : inB x b = true := by
  unfold inB
  have a0 := Int32.le_iff_toInt_le.mp (Int32.not_lt.mp h0)
  have a1 := Int32.lt_iff_toInt_lt.mp (Int32.not_le.mp h1)
  rw [nI_toInt (by omega)] at a1
  have z : (0 : Int32).toInt = 0 := by decide
  rw [decide_eq_true_eq]
  refine ⟨Int32.le_iff_toInt_le.mpr ?_, Int32.le_iff_toInt_le.mpr ?_⟩
  · have : (nI 0).toInt = 0 := by decide
    omega
  · rw [nI_toInt (by omega)]
    omega
theorem inB_F0 {x : Int32} {b : Nat} (h : x < 0) : inB x b = false := by
  unfold inB
  rw [decide_eq_false_iff_not]
  exact fun z => absurd h (Int32.not_lt.mpr z.1)
theorem inB_F1 {x : Int32} {b : Nat} (hb : b < 2147483647) (h : nI (b + 1) ≤ x) : inB x b = false := by
  unfold inB
  rw [decide_eq_false_iff_not]
  intro z
  have a1 := Int32.le_iff_toInt_le.mp h
  have a2 := Int32.le_iff_toInt_le.mp z.2
  rw [nI_toInt (by omega)] at a1 a2
  omega
set_option maxHeartbeats 1000000 in
set_option maxRecDepth 100000 in
theorem c_isWork {w : Wd} (x : Int32) : Rd mX7_isWork 0 [.int x] w (some (.int (b2i (inB x 7)))) := by
  intro sz
  refine Ev.ofV [some (.int x)] (by decide) (Nat.le_of_ble_eq_true rfl) rfl rfl rfl ?_
  refine v_iload_n dX7_isWork_0 rfl ?_
  refine v_if_lt (tgt := 14) dX7_isWork_1 (by decide) (fun b1 => ?_) (fun b1 => ?_)
  ·
    refine v_iconst (v := nI 0) dX7_isWork_14 (by decide) ?_
    refine v_zret dX7_isWork_15 rfl (by decide) (Nat.le_refl _) (Nat.le_refl _) ?_
    exact ⟨by rw [inB_F0 b1]; rfl, rfl, rfl⟩
  ·
    refine v_iload_n dX7_isWork_4 rfl ?_
    refine v_bipush (v := nI 8) dX7_isWork_5 (by decide) ?_
    refine v_icmp_ge (tgt := 14) dX7_isWork_7 (by decide) (fun b7 => ?_) (fun b7 => ?_)
    ·
      refine v_iconst (v := nI 0) dX7_isWork_14 (by decide) ?_
      refine v_zret dX7_isWork_15 rfl (by decide) (Nat.le_refl _) (Nat.le_refl _) ?_
      exact ⟨by rw [inB_F1 (by omega) b7]; rfl, rfl, rfl⟩
    ·
      refine v_iconst (v := nI 1) dX7_isWork_10 (by decide) ?_
      refine v_goto (tgt := 15) dX7_isWork_11 (by decide) ?_
      refine v_zret dX7_isWork_15 rfl (by decide) (Nat.le_refl _) (Nat.le_refl _) ?_
      exact ⟨by rw [inB_T (by omega) b1 b7]; rfl, rfl, rfl⟩
set_option maxHeartbeats 1000000 in
set_option maxRecDepth 100000 in
theorem c_isRoom {w : Wd} (x : Int32) : Rd mX7_isRoom 0 [.int x] w (some (.int (b2i (inB x 3)))) := by
  intro sz
  refine Ev.ofV [some (.int x)] (by decide) (Nat.le_of_ble_eq_true rfl) rfl rfl rfl ?_
  refine v_iload_n dX7_isRoom_0 rfl ?_
  refine v_if_lt (tgt := 13) dX7_isRoom_1 (by decide) (fun b1 => ?_) (fun b1 => ?_)
  ·
    refine v_iconst (v := nI 0) dX7_isRoom_13 (by decide) ?_
    refine v_zret dX7_isRoom_14 rfl (by decide) (Nat.le_refl _) (Nat.le_refl _) ?_
    exact ⟨by rw [inB_F0 b1]; rfl, rfl, rfl⟩
  ·
    refine v_iload_n dX7_isRoom_4 rfl ?_
    refine v_iconst (v := nI 4) dX7_isRoom_5 (by decide) ?_
    refine v_icmp_ge (tgt := 13) dX7_isRoom_6 (by decide) (fun b6 => ?_) (fun b6 => ?_)
    ·
      refine v_iconst (v := nI 0) dX7_isRoom_13 (by decide) ?_
      refine v_zret dX7_isRoom_14 rfl (by decide) (Nat.le_refl _) (Nat.le_refl _) ?_
      exact ⟨by rw [inB_F1 (by omega) b6]; rfl, rfl, rfl⟩
    ·
      refine v_iconst (v := nI 1) dX7_isRoom_9 (by decide) ?_
      refine v_goto (tgt := 14) dX7_isRoom_10 (by decide) ?_
      refine v_zret dX7_isRoom_14 rfl (by decide) (Nat.le_refl _) (Nat.le_refl _) ?_
      exact ⟨by rw [inB_T (by omega) b1 b6]; rfl, rfl, rfl⟩
set_option maxHeartbeats 1000000 in
set_option maxRecDepth 100000 in
theorem c_isTongue {w : Wd} (x : Int32) : Rd mX7_isTongue 0 [.int x] w (some (.int (b2i (inB x 2)))) := by
  intro sz
  refine Ev.ofV [some (.int x)] (by decide) (Nat.le_of_ble_eq_true rfl) rfl rfl rfl ?_
  refine v_iload_n dX7_isTongue_0 rfl ?_
  refine v_if_lt (tgt := 13) dX7_isTongue_1 (by decide) (fun b1 => ?_) (fun b1 => ?_)
  ·
    refine v_iconst (v := nI 0) dX7_isTongue_13 (by decide) ?_
    refine v_zret dX7_isTongue_14 rfl (by decide) (Nat.le_refl _) (Nat.le_refl _) ?_
    exact ⟨by rw [inB_F0 b1]; rfl, rfl, rfl⟩
  ·
    refine v_iload_n dX7_isTongue_4 rfl ?_
    refine v_iconst (v := nI 3) dX7_isTongue_5 (by decide) ?_
    refine v_icmp_ge (tgt := 13) dX7_isTongue_6 (by decide) (fun b6 => ?_) (fun b6 => ?_)
    ·
      refine v_iconst (v := nI 0) dX7_isTongue_13 (by decide) ?_
      refine v_zret dX7_isTongue_14 rfl (by decide) (Nat.le_refl _) (Nat.le_refl _) ?_
      exact ⟨by rw [inB_F1 (by omega) b6]; rfl, rfl, rfl⟩
    ·
      refine v_iconst (v := nI 1) dX7_isTongue_9 (by decide) ?_
      refine v_goto (tgt := 14) dX7_isTongue_10 (by decide) ?_
      refine v_zret dX7_isTongue_14 rfl (by decide) (Nat.le_refl _) (Nat.le_refl _) ?_
      exact ⟨by rw [inB_T (by omega) b1 b6]; rfl, rfl, rfl⟩
set_option maxHeartbeats 1000000 in
set_option maxRecDepth 100000 in
theorem c_isVisitor {w : Wd} (x : Int32) : Rd mX7_isVisitor 0 [.int x] w (some (.int (b2i (inB x 9)))) := by
  intro sz
  refine Ev.ofV [some (.int x)] (by decide) (Nat.le_of_ble_eq_true rfl) rfl rfl rfl ?_
  refine v_iload_n dX7_isVisitor_0 rfl ?_
  refine v_if_lt (tgt := 14) dX7_isVisitor_1 (by decide) (fun b1 => ?_) (fun b1 => ?_)
  ·
    refine v_iconst (v := nI 0) dX7_isVisitor_14 (by decide) ?_
    refine v_zret dX7_isVisitor_15 rfl (by decide) (Nat.le_refl _) (Nat.le_refl _) ?_
    exact ⟨by rw [inB_F0 b1]; rfl, rfl, rfl⟩
  ·
    refine v_iload_n dX7_isVisitor_4 rfl ?_
    refine v_bipush (v := nI 10) dX7_isVisitor_5 (by decide) ?_
    refine v_icmp_ge (tgt := 14) dX7_isVisitor_7 (by decide) (fun b7 => ?_) (fun b7 => ?_)
    ·
      refine v_iconst (v := nI 0) dX7_isVisitor_14 (by decide) ?_
      refine v_zret dX7_isVisitor_15 rfl (by decide) (Nat.le_refl _) (Nat.le_refl _) ?_
      exact ⟨by rw [inB_F1 (by omega) b7]; rfl, rfl, rfl⟩
    ·
      refine v_iconst (v := nI 1) dX7_isVisitor_10 (by decide) ?_
      refine v_goto (tgt := 15) dX7_isVisitor_11 (by decide) ?_
      refine v_zret dX7_isVisitor_15 rfl (by decide) (Nat.le_refl _) (Nat.le_refl _) ?_
      exact ⟨by rw [inB_T (by omega) b1 b7]; rfl, rfl, rfl⟩
set_option maxHeartbeats 1000000 in
set_option maxRecDepth 100000 in
theorem k_letter_no {w : Wd} {B ns tn : Nat} {σ tx : Nat → Int32} {k : Bool} (h : CR w B σ ns k tx tn) (x y z : Int32) (hg : (inB x 7 && inB y 2) = false) : Rd mX7_letter 6 [.ref B, .int x, .int y, .int z] w (some (.int (letterI σ x y z))) := by
  intro sz
  refine Ev.ofV [some (.ref B), some (.int x), some (.int y), some (.int z), none] (by decide) (Nat.le_of_ble_eq_true rfl) rfl rfl rfl ?_
  have h00 := h
  obtain ⟨nx, hh, gk, hX, hG⟩ := h00
  have hXb := hX
  obtain ⟨x1, x2, ⟨f0, n0, x3⟩, x4, x5, x6, R0, x7⟩ := hXb
  have hS0 := x4
  obtain ⟨hB, ⟨n, π, κ, hRR⟩, hW, hI, hO⟩ := hS0
  have hBb := hB
  obtain ⟨s1, ⟨li, s2, s2b⟩, ⟨ak, s3, s3b⟩, ⟨ro, s4, s4b⟩, ⟨ac, s5, s5b⟩, ⟨lf, s6, s6b⟩, s7⟩ := hBb
  have hRb := hRR
  obtain ⟨⟨F, r1, r2, r3⟩, hK, hP, hS, hR⟩ := hRb
  have x5b := x5
  obtain ⟨⟨hf, v1, v2, v3⟩, hns, hnx, v4⟩ := x5b
  refine v_iload_n dX7_letter_0 rfl ?_
  refine u_rS1 oX7_isWork dX7_letter_1 ml_X7_79 (c_isWork x) (by decide) (Nat.le_of_ble_eq_true rfl) (Nat.le_refl _) (Nat.le_refl _) ?_
  refine v_if_eqB (tgt := 14) dX7_letter_4 (by decide) (fun b4 => ?_) (fun b4 => ?_)
  ·
    refine v_iconst (v := -1) dX7_letter_14 (by decide) ?_
    refine v_iret dX7_letter_15 rfl (Nat.le_refl _) (Nat.le_refl _) ?_
    exact ⟨by unfold letterI; rw [if_neg (by rw [hg]; decide)], rfl, rfl⟩
  ·
    refine v_iload_n dX7_letter_7 rfl ?_
    refine u_rS1 oX7_isTongue dX7_letter_8 ml_X7_63 (c_isTongue y) (by decide) (Nat.le_of_ble_eq_true rfl) (Nat.le_refl _) (Nat.le_refl _) ?_
    refine v_if_neB (tgt := 16) dX7_letter_11 (by decide) (fun b11 => ?_) (fun b11 => ?_)
    ·
      exact absurd hg (by rw [b4, b11]; decide)
    ·
      refine v_iconst (v := -1) dX7_letter_14 (by decide) ?_
      refine v_iret dX7_letter_15 rfl (Nat.le_refl _) (Nat.le_refl _) ?_
      exact ⟨by unfold letterI; rw [if_neg (by rw [hg]; decide)], rfl, rfl⟩
set_option maxHeartbeats 1000000 in
set_option maxRecDepth 100000 in
theorem k_letter_neg {w : Wd} {B ns tn : Nat} {σ tx : Nat → Int32} {k : Bool} (h : CR w B σ ns k tx tn) (a b : Nat) (ha : a < 8) (hb : b < 3) (z : Int32) (hz : z < 0) : Rd mX7_letter 6 [.ref B, .int (nI a), .int (nI b), .int z] w (some (.int (letterI σ (nI a) (nI b) z))) := by
  intro sz
  refine Ev.ofV [some (.ref B), some (.int (nI a)), some (.int (nI b)), some (.int z), none] (by decide) (Nat.le_of_ble_eq_true rfl) rfl rfl rfl ?_
  have h00 := h
  obtain ⟨nx, hh, gk, hX, hG⟩ := h00
  have hXb := hX
  obtain ⟨x1, x2, ⟨f0, n0, x3⟩, x4, x5, x6, R0, x7⟩ := hXb
  have hS0 := x4
  obtain ⟨hB, ⟨n, π, κ, hRR⟩, hW, hI, hO⟩ := hS0
  have hBb := hB
  obtain ⟨s1, ⟨li, s2, s2b⟩, ⟨ak, s3, s3b⟩, ⟨ro, s4, s4b⟩, ⟨ac, s5, s5b⟩, ⟨lf, s6, s6b⟩, s7⟩ := hBb
  have hRb := hRR
  obtain ⟨⟨F, r1, r2, r3⟩, hK, hP, hS, hR⟩ := hRb
  have x5b := x5
  obtain ⟨⟨hf, v1, v2, v3⟩, hns, hnx, v4⟩ := x5b
  have hga : inB (nI a) 7 = true := by rw [inB_nI (by omega) (by omega)]; simp; omega
  have hgb : inB (nI b) 2 = true := by rw [inB_nI (by omega) (by omega)]; simp; omega
  have hgg : (inB (nI a) 7 && inB (nI b) 2) = true := by rw [hga, hgb]; rfl
  refine v_iload_n dX7_letter_0 rfl ?_
  refine u_rS1 oX7_isWork dX7_letter_1 ml_X7_79 (c_isWork (nI a)) (by decide) (Nat.le_of_ble_eq_true rfl) (Nat.le_refl _) (Nat.le_refl _) ?_
  refine v_if_eqB (tgt := 14) dX7_letter_4 (by decide) (fun b4 => ?_) (fun b4 => ?_)
  ·
    exact absurd hga (by rw [b4]; decide)
  ·
    refine v_iload_n dX7_letter_7 rfl ?_
    refine u_rS1 oX7_isTongue dX7_letter_8 ml_X7_63 (c_isTongue (nI b)) (by decide) (Nat.le_of_ble_eq_true rfl) (Nat.le_refl _) (Nat.le_refl _) ?_
    refine v_if_neB (tgt := 16) dX7_letter_11 (by decide) (fun b11 => ?_) (fun b11 => ?_)
    ·
      refine v_iload_n dX7_letter_16 rfl ?_
      refine v_if_ge (tgt := 23) dX7_letter_17 (by decide) (fun b17 => ?_) (fun b17 => ?_)
      ·
        exact absurd hz (Int32.not_lt.mpr b17)
      ·
        refine v_bipush (v := -2) dX7_letter_20 (by decide) ?_
        refine v_iret dX7_letter_22 rfl (Nat.le_refl _) (Nat.le_refl _) ?_
        exact ⟨by unfold letterI; rw [if_pos hgg, if_pos hz], rfl, rfl⟩
    ·
      exact absurd hgb (by rw [b11]; decide)
set_option maxHeartbeats 1000000 in
set_option maxRecDepth 100000 in
theorem k_letterN {w : Wd} {B ns tn : Nat} {σ tx : Nat → Int32} {k : Bool} (h : CR w B σ ns k tx tn) (a b : Nat) (ha : a < 8) (hb : b < 3) (c : Nat) (hc : c < 2147483648) : Rd mX7_letter 6 [.ref B, .int (nI a), .int (nI b), .int (nI c)] w (some (.int (letterI σ (nI a) (nI b) (nI c)))) := by
  intro sz
  refine Ev.ofV [some (.ref B), some (.int (nI a)), some (.int (nI b)), some (.int (nI c)), none] (by decide) (Nat.le_of_ble_eq_true rfl) rfl rfl rfl ?_
  have h00 := h
  obtain ⟨nx, hh, gk, hX, hG⟩ := h00
  have hXb := hX
  obtain ⟨x1, x2, ⟨f0, n0, x3⟩, x4, x5, x6, R0, x7⟩ := hXb
  have hS0 := x4
  obtain ⟨hB, ⟨n, π, κ, hRR⟩, hW, hI, hO⟩ := hS0
  have hBb := hB
  obtain ⟨s1, ⟨li, s2, s2b⟩, ⟨ak, s3, s3b⟩, ⟨ro, s4, s4b⟩, ⟨ac, s5, s5b⟩, ⟨lf, s6, s6b⟩, s7⟩ := hBb
  have hRb := hRR
  obtain ⟨⟨F, r1, r2, r3⟩, hK, hP, hS, hR⟩ := hRb
  have x5b := x5
  obtain ⟨⟨hf, v1, v2, v3⟩, hns, hnx, v4⟩ := x5b
  have hga : inB (nI a) 7 = true := by rw [inB_nI (by omega) (by omega)]; simp; omega
  have hgb : inB (nI b) 2 = true := by rw [inB_nI (by omega) (by omega)]; simp; omega
  have hgg : (inB (nI a) 7 && inB (nI b) 2) = true := by rw [hga, hgb]; rfl
  obtain ⟨vi, hl, hv⟩ := s7 (3 * a + b) (by omega)
  obtain ⟨wL, ws, w1, w2, w3, w4, w5, w6, w7⟩ := hl.2
  refine v_iload_n dX7_letter_0 rfl ?_
  refine u_rS1 oX7_isWork dX7_letter_1 ml_X7_79 (c_isWork (nI a)) (by decide) (Nat.le_of_ble_eq_true rfl) (Nat.le_refl _) (Nat.le_refl _) ?_
  refine v_if_eqB (tgt := 14) dX7_letter_4 (by decide) (fun b4 => ?_) (fun b4 => ?_)
  ·
    exact absurd hga (by rw [b4]; decide)
  ·
    refine v_iload_n dX7_letter_7 rfl ?_
    refine u_rS1 oX7_isTongue dX7_letter_8 ml_X7_63 (c_isTongue (nI b)) (by decide) (Nat.le_of_ble_eq_true rfl) (Nat.le_refl _) (Nat.le_refl _) ?_
    refine v_if_neB (tgt := 16) dX7_letter_11 (by decide) (fun b11 => ?_) (fun b11 => ?_)
    ·
      refine v_iload_n dX7_letter_16 rfl ?_
      refine v_if_geN (tgt := 23) dX7_letter_17 (by decide) hc ?_
      refine v_aload_n dX7_letter_23 rfl ?_
      refine v_get 2 dX7_letter_24 FTX7 (by decide) rfl fl_X7_26 x1 rfl ?_
      refine v_get 4 dX7_letter_27 FTX4 (by decide) rfl fl_X7_91 s1 rfl ?_
      refine v_iload_n dX7_letter_30 rfl ?_
      refine v_iload_n dX7_letter_31 rfl ?_
      refine u_rS2 oX7_placeOf dX7_letter_32 ml_X7_95 (c_place7 a b) (by decide) (Nat.le_of_ble_eq_true rfl) (Nat.le_refl _) (Nat.le_refl _) ?_
      refine v_aald _ (by decide) dX7_letter_35 s6 rfl (by omega) (by decide) (s6b (3 * a + b) (by omega)) ?_
      refine v_get 0 dX7_letter_36 FTX1 (by decide) rfl fl_X7_98 hl.1 rfl ?_
      refine v_astore dX7_letter_39 (by decide) rfl ?_
      refine v_iload_n dX7_letter_41 rfl ?_
      refine v_aload dX7_letter_42 rfl ?_
      refine v_get 1 dX7_letter_44 FTX6 (by decide) rfl fl_X7_193 w1 rfl ?_
      refine v_icmp_geN (tgt := 60) dX7_letter_47 (by decide) (by omega) (by omega) (fun b47 => ?_) (fun b47 => ?_)
      ·
        refine v_bipush (v := -5) dX7_letter_60 (by decide) ?_
        refine v_iret dX7_letter_62 rfl (Nat.le_refl _) (Nat.le_refl _) ?_
        exact ⟨by unfold letterI; rw [if_pos hgg, if_neg (nI_nlt0 hc), nt_nI (n := a) (by omega), nt_nI (n := b) (by omega), nt_nI hc, if_neg (by unfold ln; omega)], rfl, rfl⟩
      ·
        refine v_aload dX7_letter_50 rfl ?_
        refine v_get 0 dX7_letter_52 FTX6 (by decide) rfl fl_X7_194 w1 rfl ?_
        refine v_iload_n dX7_letter_55 rfl ?_
        refine v_caldE _ dX7_letter_56 w2 rfl (by omega) (by decide) (w6 c (by omega)) ?_
        refine v_goto (tgt := 62) dX7_letter_57 (by decide) ?_
        refine v_iret dX7_letter_62 rfl (Nat.le_refl _) (Nat.le_refl _) ?_
        exact ⟨by unfold letterI; rw [if_pos hgg, if_neg (nI_nlt0 hc), nt_nI (n := a) (by omega), nt_nI (n := b) (by omega), nt_nI hc, if_pos (by unfold ln; omega)]; rfl, rfl, rfl⟩
    ·
      exact absurd hgb (by rw [b11]; decide)
theorem k_letter {w : Wd} {B ns tn : Nat} {σ tx : Nat → Int32} {k : Bool} (h : CR w B σ ns k tx tn) (x y z : Int32) : Rd mX7_letter 6 [.ref B, .int x, .int y, .int z] w (some (.int (letterI σ x y z))) := by
  by_cases hg : (inB x 7 && inB y 2) = false
  · exact k_letter_no h x y z hg
  · have h2 := bfalse hg
    simp only [Bool.and_eq_true] at h2
    have hx := inB_ub (by omega) h2.1
    have hy := inB_ub (by omega) h2.2
    rw [hx.1, hy.1]
    by_cases h3 : z < 0
    · exact k_letter_neg h (nt x) (nt y) hx.2 hy.2 z h3
    · have hz := nn_nI h3
      rw [hz.1]
      exact k_letterN h (nt x) (nt y) hx.2 hy.2 (nt z) hz.2
set_option maxHeartbeats 1000000 in
set_option maxRecDepth 100000 in
theorem k_labelOf_no {w : Wd} {B ns tn : Nat} {σ tx : Nat → Int32} {k : Bool} (h : CR w B σ ns k tx tn) (x y z : Int32) (hg : (inB x 7 && inB y 2) = false) : Rd mX7_labelOf 6 [.ref B, .int x, .int y, .int z] w (some (.int (labelOfI σ x y z))) := by
  intro sz
  refine Ev.ofV [some (.ref B), some (.int x), some (.int y), some (.int z), none] (by decide) (Nat.le_of_ble_eq_true rfl) rfl rfl rfl ?_
  have h00 := h
  obtain ⟨nx, hh, gk, hX, hG⟩ := h00
  have hXb := hX
  obtain ⟨x1, x2, ⟨f0, n0, x3⟩, x4, x5, x6, R0, x7⟩ := hXb
  have hS0 := x4
  obtain ⟨hB, ⟨n, π, κ, hRR⟩, hW, hI, hO⟩ := hS0
  have hBb := hB
  obtain ⟨s1, ⟨li, s2, s2b⟩, ⟨ak, s3, s3b⟩, ⟨ro, s4, s4b⟩, ⟨ac, s5, s5b⟩, ⟨lf, s6, s6b⟩, s7⟩ := hBb
  have hRb := hRR
  obtain ⟨⟨F, r1, r2, r3⟩, hK, hP, hS, hR⟩ := hRb
  have x5b := x5
  obtain ⟨⟨hf, v1, v2, v3⟩, hns, hnx, v4⟩ := x5b
  refine v_iload_n dX7_labelOf_0 rfl ?_
  refine u_rS1 oX7_isWork dX7_labelOf_1 ml_X7_79 (c_isWork x) (by decide) (Nat.le_of_ble_eq_true rfl) (Nat.le_refl _) (Nat.le_refl _) ?_
  refine v_if_eqB (tgt := 14) dX7_labelOf_4 (by decide) (fun b4 => ?_) (fun b4 => ?_)
  ·
    refine v_iconst (v := -1) dX7_labelOf_14 (by decide) ?_
    refine v_iret dX7_labelOf_15 rfl (Nat.le_refl _) (Nat.le_refl _) ?_
    exact ⟨by unfold labelOfI; rw [if_neg (by rw [hg]; decide)], rfl, rfl⟩
  ·
    refine v_iload_n dX7_labelOf_7 rfl ?_
    refine u_rS1 oX7_isTongue dX7_labelOf_8 ml_X7_63 (c_isTongue y) (by decide) (Nat.le_of_ble_eq_true rfl) (Nat.le_refl _) (Nat.le_refl _) ?_
    refine v_if_neB (tgt := 16) dX7_labelOf_11 (by decide) (fun b11 => ?_) (fun b11 => ?_)
    ·
      exact absurd hg (by rw [b4, b11]; decide)
    ·
      refine v_iconst (v := -1) dX7_labelOf_14 (by decide) ?_
      refine v_iret dX7_labelOf_15 rfl (Nat.le_refl _) (Nat.le_refl _) ?_
      exact ⟨by unfold labelOfI; rw [if_neg (by rw [hg]; decide)], rfl, rfl⟩
set_option maxHeartbeats 1000000 in
set_option maxRecDepth 100000 in
theorem k_labelOf_out {w : Wd} {B ns tn : Nat} {σ tx : Nat → Int32} {k : Bool} (h : CR w B σ ns k tx tn) (a b : Nat) (ha : a < 8) (hb : b < 3) (z : Int32) (hz : inB z 4 = false) : Rd mX7_labelOf 6 [.ref B, .int (nI a), .int (nI b), .int z] w (some (.int (labelOfI σ (nI a) (nI b) z))) := by
  intro sz
  refine Ev.ofV [some (.ref B), some (.int (nI a)), some (.int (nI b)), some (.int z), none] (by decide) (Nat.le_of_ble_eq_true rfl) rfl rfl rfl ?_
  have h00 := h
  obtain ⟨nx, hh, gk, hX, hG⟩ := h00
  have hXb := hX
  obtain ⟨x1, x2, ⟨f0, n0, x3⟩, x4, x5, x6, R0, x7⟩ := hXb
  have hS0 := x4
  obtain ⟨hB, ⟨n, π, κ, hRR⟩, hW, hI, hO⟩ := hS0
  have hBb := hB
  obtain ⟨s1, ⟨li, s2, s2b⟩, ⟨ak, s3, s3b⟩, ⟨ro, s4, s4b⟩, ⟨ac, s5, s5b⟩, ⟨lf, s6, s6b⟩, s7⟩ := hBb
  have hRb := hRR
  obtain ⟨⟨F, r1, r2, r3⟩, hK, hP, hS, hR⟩ := hRb
  have x5b := x5
  obtain ⟨⟨hf, v1, v2, v3⟩, hns, hnx, v4⟩ := x5b
  have hga : inB (nI a) 7 = true := by rw [inB_nI (by omega) (by omega)]; simp; omega
  have hgb : inB (nI b) 2 = true := by rw [inB_nI (by omega) (by omega)]; simp; omega
  have hgg : (inB (nI a) 7 && inB (nI b) 2) = true := by rw [hga, hgb]; rfl
  refine v_iload_n dX7_labelOf_0 rfl ?_
  refine u_rS1 oX7_isWork dX7_labelOf_1 ml_X7_79 (c_isWork (nI a)) (by decide) (Nat.le_of_ble_eq_true rfl) (Nat.le_refl _) (Nat.le_refl _) ?_
  refine v_if_eqB (tgt := 14) dX7_labelOf_4 (by decide) (fun b4 => ?_) (fun b4 => ?_)
  ·
    exact absurd hga (by rw [b4]; decide)
  ·
    refine v_iload_n dX7_labelOf_7 rfl ?_
    refine u_rS1 oX7_isTongue dX7_labelOf_8 ml_X7_63 (c_isTongue (nI b)) (by decide) (Nat.le_of_ble_eq_true rfl) (Nat.le_refl _) (Nat.le_refl _) ?_
    refine v_if_neB (tgt := 16) dX7_labelOf_11 (by decide) (fun b11 => ?_) (fun b11 => ?_)
    ·
      refine v_iload_n dX7_labelOf_16 rfl ?_
      refine v_if_lt (tgt := 25) dX7_labelOf_17 (by decide) (fun b17 => ?_) (fun b17 => ?_)
      ·
        refine v_bipush (v := -2) dX7_labelOf_25 (by decide) ?_
        refine v_iret dX7_labelOf_27 rfl (Nat.le_refl _) (Nat.le_refl _) ?_
        exact ⟨by unfold labelOfI; rw [if_pos hgg, if_neg (by rw [hz]; decide)], rfl, rfl⟩
      ·
        refine v_iload_n dX7_labelOf_20 rfl ?_
        refine v_iconst (v := nI 4) dX7_labelOf_21 (by decide) ?_
        refine v_icmp_le (tgt := 28) dX7_labelOf_22 (by decide) (fun b22 => ?_) (fun b22 => ?_)
        ·
          exact absurd hz (by rw [inB_T (b := 4) (by omega) b17 (fun y => by have a1 := Int32.le_iff_toInt_le.mp b22; have a2 := Int32.le_iff_toInt_le.mp y; rw [nI_toInt (by omega)] at a1 a2; omega)]; decide)
        ·
          refine v_bipush (v := -2) dX7_labelOf_25 (by decide) ?_
          refine v_iret dX7_labelOf_27 rfl (Nat.le_refl _) (Nat.le_refl _) ?_
          exact ⟨by unfold labelOfI; rw [if_pos hgg, if_neg (by rw [hz]; decide)], rfl, rfl⟩
    ·
      exact absurd hgb (by rw [b11]; decide)
set_option maxHeartbeats 1000000 in
set_option maxRecDepth 100000 in
theorem k_labelOf0 {w : Wd} {B ns tn : Nat} {σ tx : Nat → Int32} {k : Bool} (h : CR w B σ ns k tx tn) (a b : Nat) (ha : a < 8) (hb : b < 3) : Rd mX7_labelOf 6 [.ref B, .int (nI a), .int (nI b), .int (nI 0)] w (some (.int (labelOfI σ (nI a) (nI b) (nI 0)))) := by
  intro sz
  refine Ev.ofV [some (.ref B), some (.int (nI a)), some (.int (nI b)), some (.int (nI 0)), none] (by decide) (Nat.le_of_ble_eq_true rfl) rfl rfl rfl ?_
  have h00 := h
  obtain ⟨nx, hh, gk, hX, hG⟩ := h00
  have hXb := hX
  obtain ⟨x1, x2, ⟨f0, n0, x3⟩, x4, x5, x6, R0, x7⟩ := hXb
  have hS0 := x4
  obtain ⟨hB, ⟨n, π, κ, hRR⟩, hW, hI, hO⟩ := hS0
  have hBb := hB
  obtain ⟨s1, ⟨li, s2, s2b⟩, ⟨ak, s3, s3b⟩, ⟨ro, s4, s4b⟩, ⟨ac, s5, s5b⟩, ⟨lf, s6, s6b⟩, s7⟩ := hBb
  have hRb := hRR
  obtain ⟨⟨F, r1, r2, r3⟩, hK, hP, hS, hR⟩ := hRb
  have x5b := x5
  obtain ⟨⟨hf, v1, v2, v3⟩, hns, hnx, v4⟩ := x5b
  have hga : inB (nI a) 7 = true := by rw [inB_nI (by omega) (by omega)]; simp; omega
  have hgb : inB (nI b) 2 = true := by rw [inB_nI (by omega) (by omega)]; simp; omega
  have hgg : (inB (nI a) 7 && inB (nI b) 2) = true := by rw [hga, hgb]; rfl
  obtain ⟨vi, hl, hv⟩ := s7 (3 * a + b) (by omega)
  have hlen := (hW.2.2.2.2.2.1 (3 * a + b) (by omega)).1
  refine v_iload_n dX7_labelOf_0 rfl ?_
  refine u_rS1 oX7_isWork dX7_labelOf_1 ml_X7_79 (c_isWork (nI a)) (by decide) (Nat.le_of_ble_eq_true rfl) (Nat.le_refl _) (Nat.le_refl _) ?_
  refine v_if_eqB (tgt := 14) dX7_labelOf_4 (by decide) (fun b4 => ?_) (fun b4 => ?_)
  ·
    exact absurd hga (by rw [b4]; decide)
  ·
    refine v_iload_n dX7_labelOf_7 rfl ?_
    refine u_rS1 oX7_isTongue dX7_labelOf_8 ml_X7_63 (c_isTongue (nI b)) (by decide) (Nat.le_of_ble_eq_true rfl) (Nat.le_refl _) (Nat.le_refl _) ?_
    refine v_if_neB (tgt := 16) dX7_labelOf_11 (by decide) (fun b11 => ?_) (fun b11 => ?_)
    ·
      refine v_iload_n dX7_labelOf_16 rfl ?_
      refine v_if_ltN (tgt := 25) dX7_labelOf_17 (by decide) (by omega) ?_
      refine v_iload_n dX7_labelOf_20 rfl ?_
      refine v_iconst (v := nI 4) dX7_labelOf_21 (by decide) ?_
      refine v_icmp_leN (tgt := 28) dX7_labelOf_22 (by decide) (by decide) (by decide) (fun _ => ?_) (fun z => absurd z (by decide))
      refine v_aload_n dX7_labelOf_28 rfl ?_
      refine v_get 2 dX7_labelOf_29 FTX7 (by decide) rfl fl_X7_26 x1 rfl ?_
      refine v_get 4 dX7_labelOf_32 FTX4 (by decide) rfl fl_X7_91 s1 rfl ?_
      refine v_iload_n dX7_labelOf_35 rfl ?_
      refine v_iload_n dX7_labelOf_36 rfl ?_
      refine u_rS2 oX7_placeOf dX7_labelOf_37 ml_X7_95 (c_place7 a b) (by decide) (Nat.le_of_ble_eq_true rfl) (Nat.le_refl _) (Nat.le_refl _) ?_
      refine v_aald _ (by decide) dX7_labelOf_40 s6 rfl (by omega) (by decide) (s6b (3 * a + b) (by omega)) ?_
      refine v_astore dX7_labelOf_41 (by decide) rfl ?_
      refine v_aload dX7_labelOf_43 rfl ?_
      refine u_rV0 oX1_stands dX7_labelOf_45 ml_X7_118 (c_stands hl) hl.1 (by decide) (Nat.le_of_ble_eq_true rfl) (Nat.le_refl _) (Nat.le_refl _) ?_
      refine v_if_eqB (tgt := 60) dX7_labelOf_48 (by decide) (fun b48 => ?_) (fun b48 => ?_)
      ·
        have c48 := of_decide_eq_false b48
        refine v_bipush (v := -5) dX7_labelOf_60 (by decide) ?_
        refine v_iret dX7_labelOf_62 rfl (Nat.le_refl _) (Nat.le_refl _) ?_
        exact ⟨by unfold labelOfI; rw [if_pos hgg, if_pos (by decide), nt_nI (n := a) (by omega), nt_nI (n := b) (by omega), nt_nI (n := 0) (by omega), if_pos (by unfold ln; omega)], rfl, rfl⟩
      ·
        have b48 := of_decide_eq_true b48
        refine v_aload dX7_labelOf_51 rfl ?_
        refine v_iload_n dX7_labelOf_53 rfl ?_
        refine u_rV1 oX1_told dX7_labelOf_54 ml_X7_190 (c_ltold0 hl) hl.1 (by decide) (Nat.le_of_ble_eq_true rfl) (Nat.le_refl _) (Nat.le_refl _) ?_
        refine v_goto (tgt := 62) dX7_labelOf_57 (by decide) ?_
        refine v_iret dX7_labelOf_62 rfl (Nat.le_refl _) (Nat.le_refl _) ?_
        exact ⟨by unfold labelOfI; rw [if_pos hgg, if_pos (by decide), nt_nI (n := a) (by omega), nt_nI (n := b) (by omega), nt_nI (n := 0) (by omega), if_neg (by unfold ln; omega)]; rfl, rfl, rfl⟩
    ·
      exact absurd hgb (by rw [b11]; decide)
set_option maxHeartbeats 1000000 in
set_option maxRecDepth 100000 in
theorem k_labelOf1 {w : Wd} {B ns tn : Nat} {σ tx : Nat → Int32} {k : Bool} (h : CR w B σ ns k tx tn) (a b : Nat) (ha : a < 8) (hb : b < 3) : Rd mX7_labelOf 6 [.ref B, .int (nI a), .int (nI b), .int (nI 1)] w (some (.int (labelOfI σ (nI a) (nI b) (nI 1)))) := by
  intro sz
  refine Ev.ofV [some (.ref B), some (.int (nI a)), some (.int (nI b)), some (.int (nI 1)), none] (by decide) (Nat.le_of_ble_eq_true rfl) rfl rfl rfl ?_
  have h00 := h
  obtain ⟨nx, hh, gk, hX, hG⟩ := h00
  have hXb := hX
  obtain ⟨x1, x2, ⟨f0, n0, x3⟩, x4, x5, x6, R0, x7⟩ := hXb
  have hS0 := x4
  obtain ⟨hB, ⟨n, π, κ, hRR⟩, hW, hI, hO⟩ := hS0
  have hBb := hB
  obtain ⟨s1, ⟨li, s2, s2b⟩, ⟨ak, s3, s3b⟩, ⟨ro, s4, s4b⟩, ⟨ac, s5, s5b⟩, ⟨lf, s6, s6b⟩, s7⟩ := hBb
  have hRb := hRR
  obtain ⟨⟨F, r1, r2, r3⟩, hK, hP, hS, hR⟩ := hRb
  have x5b := x5
  obtain ⟨⟨hf, v1, v2, v3⟩, hns, hnx, v4⟩ := x5b
  have hga : inB (nI a) 7 = true := by rw [inB_nI (by omega) (by omega)]; simp; omega
  have hgb : inB (nI b) 2 = true := by rw [inB_nI (by omega) (by omega)]; simp; omega
  have hgg : (inB (nI a) 7 && inB (nI b) 2) = true := by rw [hga, hgb]; rfl
  obtain ⟨vi, hl, hv⟩ := s7 (3 * a + b) (by omega)
  have hlen := (hW.2.2.2.2.2.1 (3 * a + b) (by omega)).1
  refine v_iload_n dX7_labelOf_0 rfl ?_
  refine u_rS1 oX7_isWork dX7_labelOf_1 ml_X7_79 (c_isWork (nI a)) (by decide) (Nat.le_of_ble_eq_true rfl) (Nat.le_refl _) (Nat.le_refl _) ?_
  refine v_if_eqB (tgt := 14) dX7_labelOf_4 (by decide) (fun b4 => ?_) (fun b4 => ?_)
  ·
    exact absurd hga (by rw [b4]; decide)
  ·
    refine v_iload_n dX7_labelOf_7 rfl ?_
    refine u_rS1 oX7_isTongue dX7_labelOf_8 ml_X7_63 (c_isTongue (nI b)) (by decide) (Nat.le_of_ble_eq_true rfl) (Nat.le_refl _) (Nat.le_refl _) ?_
    refine v_if_neB (tgt := 16) dX7_labelOf_11 (by decide) (fun b11 => ?_) (fun b11 => ?_)
    ·
      refine v_iload_n dX7_labelOf_16 rfl ?_
      refine v_if_ltN (tgt := 25) dX7_labelOf_17 (by decide) (by omega) ?_
      refine v_iload_n dX7_labelOf_20 rfl ?_
      refine v_iconst (v := nI 4) dX7_labelOf_21 (by decide) ?_
      refine v_icmp_leN (tgt := 28) dX7_labelOf_22 (by decide) (by decide) (by decide) (fun _ => ?_) (fun z => absurd z (by decide))
      refine v_aload_n dX7_labelOf_28 rfl ?_
      refine v_get 2 dX7_labelOf_29 FTX7 (by decide) rfl fl_X7_26 x1 rfl ?_
      refine v_get 4 dX7_labelOf_32 FTX4 (by decide) rfl fl_X7_91 s1 rfl ?_
      refine v_iload_n dX7_labelOf_35 rfl ?_
      refine v_iload_n dX7_labelOf_36 rfl ?_
      refine u_rS2 oX7_placeOf dX7_labelOf_37 ml_X7_95 (c_place7 a b) (by decide) (Nat.le_of_ble_eq_true rfl) (Nat.le_refl _) (Nat.le_refl _) ?_
      refine v_aald _ (by decide) dX7_labelOf_40 s6 rfl (by omega) (by decide) (s6b (3 * a + b) (by omega)) ?_
      refine v_astore dX7_labelOf_41 (by decide) rfl ?_
      refine v_aload dX7_labelOf_43 rfl ?_
      refine u_rV0 oX1_stands dX7_labelOf_45 ml_X7_118 (c_stands hl) hl.1 (by decide) (Nat.le_of_ble_eq_true rfl) (Nat.le_refl _) (Nat.le_refl _) ?_
      refine v_if_eqB (tgt := 60) dX7_labelOf_48 (by decide) (fun b48 => ?_) (fun b48 => ?_)
      ·
        have c48 := of_decide_eq_false b48
        refine v_bipush (v := -5) dX7_labelOf_60 (by decide) ?_
        refine v_iret dX7_labelOf_62 rfl (Nat.le_refl _) (Nat.le_refl _) ?_
        exact ⟨by unfold labelOfI; rw [if_pos hgg, if_pos (by decide), nt_nI (n := a) (by omega), nt_nI (n := b) (by omega), nt_nI (n := 1) (by omega), if_pos (by unfold ln; omega)], rfl, rfl⟩
      ·
        have b48 := of_decide_eq_true b48
        refine v_aload dX7_labelOf_51 rfl ?_
        refine v_iload_n dX7_labelOf_53 rfl ?_
        refine u_rV1 oX1_told dX7_labelOf_54 ml_X7_190 (c_ltold1 hl) hl.1 (by decide) (Nat.le_of_ble_eq_true rfl) (Nat.le_refl _) (Nat.le_refl _) ?_
        refine v_goto (tgt := 62) dX7_labelOf_57 (by decide) ?_
        refine v_iret dX7_labelOf_62 rfl (Nat.le_refl _) (Nat.le_refl _) ?_
        exact ⟨by unfold labelOfI; rw [if_pos hgg, if_pos (by decide), nt_nI (n := a) (by omega), nt_nI (n := b) (by omega), nt_nI (n := 1) (by omega), if_neg (by unfold ln; omega)]; show _ = some (Value.int (σ (272 + 64 * (3 * a + b)))); rw [← hlen.1], rfl, rfl⟩
    ·
      exact absurd hgb (by rw [b11]; decide)
set_option maxHeartbeats 1000000 in
set_option maxRecDepth 100000 in
theorem k_labelOf2 {w : Wd} {B ns tn : Nat} {σ tx : Nat → Int32} {k : Bool} (h : CR w B σ ns k tx tn) (a b : Nat) (ha : a < 8) (hb : b < 3) : Rd mX7_labelOf 6 [.ref B, .int (nI a), .int (nI b), .int (nI 2)] w (some (.int (labelOfI σ (nI a) (nI b) (nI 2)))) := by
  intro sz
  refine Ev.ofV [some (.ref B), some (.int (nI a)), some (.int (nI b)), some (.int (nI 2)), none] (by decide) (Nat.le_of_ble_eq_true rfl) rfl rfl rfl ?_
  have h00 := h
  obtain ⟨nx, hh, gk, hX, hG⟩ := h00
  have hXb := hX
  obtain ⟨x1, x2, ⟨f0, n0, x3⟩, x4, x5, x6, R0, x7⟩ := hXb
  have hS0 := x4
  obtain ⟨hB, ⟨n, π, κ, hRR⟩, hW, hI, hO⟩ := hS0
  have hBb := hB
  obtain ⟨s1, ⟨li, s2, s2b⟩, ⟨ak, s3, s3b⟩, ⟨ro, s4, s4b⟩, ⟨ac, s5, s5b⟩, ⟨lf, s6, s6b⟩, s7⟩ := hBb
  have hRb := hRR
  obtain ⟨⟨F, r1, r2, r3⟩, hK, hP, hS, hR⟩ := hRb
  have x5b := x5
  obtain ⟨⟨hf, v1, v2, v3⟩, hns, hnx, v4⟩ := x5b
  have hga : inB (nI a) 7 = true := by rw [inB_nI (by omega) (by omega)]; simp; omega
  have hgb : inB (nI b) 2 = true := by rw [inB_nI (by omega) (by omega)]; simp; omega
  have hgg : (inB (nI a) 7 && inB (nI b) 2) = true := by rw [hga, hgb]; rfl
  obtain ⟨vi, hl, hv⟩ := s7 (3 * a + b) (by omega)
  have hlen := (hW.2.2.2.2.2.1 (3 * a + b) (by omega)).1
  refine v_iload_n dX7_labelOf_0 rfl ?_
  refine u_rS1 oX7_isWork dX7_labelOf_1 ml_X7_79 (c_isWork (nI a)) (by decide) (Nat.le_of_ble_eq_true rfl) (Nat.le_refl _) (Nat.le_refl _) ?_
  refine v_if_eqB (tgt := 14) dX7_labelOf_4 (by decide) (fun b4 => ?_) (fun b4 => ?_)
  ·
    exact absurd hga (by rw [b4]; decide)
  ·
    refine v_iload_n dX7_labelOf_7 rfl ?_
    refine u_rS1 oX7_isTongue dX7_labelOf_8 ml_X7_63 (c_isTongue (nI b)) (by decide) (Nat.le_of_ble_eq_true rfl) (Nat.le_refl _) (Nat.le_refl _) ?_
    refine v_if_neB (tgt := 16) dX7_labelOf_11 (by decide) (fun b11 => ?_) (fun b11 => ?_)
    ·
      refine v_iload_n dX7_labelOf_16 rfl ?_
      refine v_if_ltN (tgt := 25) dX7_labelOf_17 (by decide) (by omega) ?_
      refine v_iload_n dX7_labelOf_20 rfl ?_
      refine v_iconst (v := nI 4) dX7_labelOf_21 (by decide) ?_
      refine v_icmp_leN (tgt := 28) dX7_labelOf_22 (by decide) (by decide) (by decide) (fun _ => ?_) (fun z => absurd z (by decide))
      refine v_aload_n dX7_labelOf_28 rfl ?_
      refine v_get 2 dX7_labelOf_29 FTX7 (by decide) rfl fl_X7_26 x1 rfl ?_
      refine v_get 4 dX7_labelOf_32 FTX4 (by decide) rfl fl_X7_91 s1 rfl ?_
      refine v_iload_n dX7_labelOf_35 rfl ?_
      refine v_iload_n dX7_labelOf_36 rfl ?_
      refine u_rS2 oX7_placeOf dX7_labelOf_37 ml_X7_95 (c_place7 a b) (by decide) (Nat.le_of_ble_eq_true rfl) (Nat.le_refl _) (Nat.le_refl _) ?_
      refine v_aald _ (by decide) dX7_labelOf_40 s6 rfl (by omega) (by decide) (s6b (3 * a + b) (by omega)) ?_
      refine v_astore dX7_labelOf_41 (by decide) rfl ?_
      refine v_aload dX7_labelOf_43 rfl ?_
      refine u_rV0 oX1_stands dX7_labelOf_45 ml_X7_118 (c_stands hl) hl.1 (by decide) (Nat.le_of_ble_eq_true rfl) (Nat.le_refl _) (Nat.le_refl _) ?_
      refine v_if_eqB (tgt := 60) dX7_labelOf_48 (by decide) (fun b48 => ?_) (fun b48 => ?_)
      ·
        have c48 := of_decide_eq_false b48
        refine v_bipush (v := -5) dX7_labelOf_60 (by decide) ?_
        refine v_iret dX7_labelOf_62 rfl (Nat.le_refl _) (Nat.le_refl _) ?_
        exact ⟨by unfold labelOfI; rw [if_pos hgg, if_pos (by decide), nt_nI (n := a) (by omega), nt_nI (n := b) (by omega), nt_nI (n := 2) (by omega), if_pos (by unfold ln; omega)], rfl, rfl⟩
      ·
        have b48 := of_decide_eq_true b48
        refine v_aload dX7_labelOf_51 rfl ?_
        refine v_iload_n dX7_labelOf_53 rfl ?_
        refine u_rV1 oX1_told dX7_labelOf_54 ml_X7_190 (c_ltold2 hl) hl.1 (by decide) (Nat.le_of_ble_eq_true rfl) (Nat.le_refl _) (Nat.le_refl _) ?_
        refine v_goto (tgt := 62) dX7_labelOf_57 (by decide) ?_
        refine v_iret dX7_labelOf_62 rfl (Nat.le_refl _) (Nat.le_refl _) ?_
        exact ⟨by unfold labelOfI; rw [if_pos hgg, if_pos (by decide), nt_nI (n := a) (by omega), nt_nI (n := b) (by omega), nt_nI (n := 2) (by omega), if_neg (by unfold ln; omega)]; show some (Value.int vi) = some (Value.int (lvis σ (3 * a + b))); rw [hv b48], rfl, rfl⟩
    ·
      exact absurd hgb (by rw [b11]; decide)
set_option maxHeartbeats 1000000 in
set_option maxRecDepth 100000 in
theorem k_labelOf3 {w : Wd} {B ns tn : Nat} {σ tx : Nat → Int32} {k : Bool} (h : CR w B σ ns k tx tn) (a b : Nat) (ha : a < 8) (hb : b < 3) : Rd mX7_labelOf 6 [.ref B, .int (nI a), .int (nI b), .int (nI 3)] w (some (.int (labelOfI σ (nI a) (nI b) (nI 3)))) := by
  intro sz
  refine Ev.ofV [some (.ref B), some (.int (nI a)), some (.int (nI b)), some (.int (nI 3)), none] (by decide) (Nat.le_of_ble_eq_true rfl) rfl rfl rfl ?_
  have h00 := h
  obtain ⟨nx, hh, gk, hX, hG⟩ := h00
  have hXb := hX
  obtain ⟨x1, x2, ⟨f0, n0, x3⟩, x4, x5, x6, R0, x7⟩ := hXb
  have hS0 := x4
  obtain ⟨hB, ⟨n, π, κ, hRR⟩, hW, hI, hO⟩ := hS0
  have hBb := hB
  obtain ⟨s1, ⟨li, s2, s2b⟩, ⟨ak, s3, s3b⟩, ⟨ro, s4, s4b⟩, ⟨ac, s5, s5b⟩, ⟨lf, s6, s6b⟩, s7⟩ := hBb
  have hRb := hRR
  obtain ⟨⟨F, r1, r2, r3⟩, hK, hP, hS, hR⟩ := hRb
  have x5b := x5
  obtain ⟨⟨hf, v1, v2, v3⟩, hns, hnx, v4⟩ := x5b
  have hga : inB (nI a) 7 = true := by rw [inB_nI (by omega) (by omega)]; simp; omega
  have hgb : inB (nI b) 2 = true := by rw [inB_nI (by omega) (by omega)]; simp; omega
  have hgg : (inB (nI a) 7 && inB (nI b) 2) = true := by rw [hga, hgb]; rfl
  obtain ⟨vi, hl, hv⟩ := s7 (3 * a + b) (by omega)
  have hlen := (hW.2.2.2.2.2.1 (3 * a + b) (by omega)).1
  refine v_iload_n dX7_labelOf_0 rfl ?_
  refine u_rS1 oX7_isWork dX7_labelOf_1 ml_X7_79 (c_isWork (nI a)) (by decide) (Nat.le_of_ble_eq_true rfl) (Nat.le_refl _) (Nat.le_refl _) ?_
  refine v_if_eqB (tgt := 14) dX7_labelOf_4 (by decide) (fun b4 => ?_) (fun b4 => ?_)
  ·
    exact absurd hga (by rw [b4]; decide)
  ·
    refine v_iload_n dX7_labelOf_7 rfl ?_
    refine u_rS1 oX7_isTongue dX7_labelOf_8 ml_X7_63 (c_isTongue (nI b)) (by decide) (Nat.le_of_ble_eq_true rfl) (Nat.le_refl _) (Nat.le_refl _) ?_
    refine v_if_neB (tgt := 16) dX7_labelOf_11 (by decide) (fun b11 => ?_) (fun b11 => ?_)
    ·
      refine v_iload_n dX7_labelOf_16 rfl ?_
      refine v_if_ltN (tgt := 25) dX7_labelOf_17 (by decide) (by omega) ?_
      refine v_iload_n dX7_labelOf_20 rfl ?_
      refine v_iconst (v := nI 4) dX7_labelOf_21 (by decide) ?_
      refine v_icmp_leN (tgt := 28) dX7_labelOf_22 (by decide) (by decide) (by decide) (fun _ => ?_) (fun z => absurd z (by decide))
      refine v_aload_n dX7_labelOf_28 rfl ?_
      refine v_get 2 dX7_labelOf_29 FTX7 (by decide) rfl fl_X7_26 x1 rfl ?_
      refine v_get 4 dX7_labelOf_32 FTX4 (by decide) rfl fl_X7_91 s1 rfl ?_
      refine v_iload_n dX7_labelOf_35 rfl ?_
      refine v_iload_n dX7_labelOf_36 rfl ?_
      refine u_rS2 oX7_placeOf dX7_labelOf_37 ml_X7_95 (c_place7 a b) (by decide) (Nat.le_of_ble_eq_true rfl) (Nat.le_refl _) (Nat.le_refl _) ?_
      refine v_aald _ (by decide) dX7_labelOf_40 s6 rfl (by omega) (by decide) (s6b (3 * a + b) (by omega)) ?_
      refine v_astore dX7_labelOf_41 (by decide) rfl ?_
      refine v_aload dX7_labelOf_43 rfl ?_
      refine u_rV0 oX1_stands dX7_labelOf_45 ml_X7_118 (c_stands hl) hl.1 (by decide) (Nat.le_of_ble_eq_true rfl) (Nat.le_refl _) (Nat.le_refl _) ?_
      refine v_if_eqB (tgt := 60) dX7_labelOf_48 (by decide) (fun b48 => ?_) (fun b48 => ?_)
      ·
        have c48 := of_decide_eq_false b48
        refine v_bipush (v := -5) dX7_labelOf_60 (by decide) ?_
        refine v_iret dX7_labelOf_62 rfl (Nat.le_refl _) (Nat.le_refl _) ?_
        exact ⟨by unfold labelOfI; rw [if_pos hgg, if_pos (by decide), nt_nI (n := a) (by omega), nt_nI (n := b) (by omega), nt_nI (n := 3) (by omega), if_pos (by unfold ln; omega)], rfl, rfl⟩
      ·
        have b48 := of_decide_eq_true b48
        refine v_aload dX7_labelOf_51 rfl ?_
        refine v_iload_n dX7_labelOf_53 rfl ?_
        refine u_rV1 oX1_told dX7_labelOf_54 ml_X7_190 (c_ltold3 hl) hl.1 (by decide) (Nat.le_of_ble_eq_true rfl) (Nat.le_refl _) (Nat.le_refl _) ?_
        refine v_goto (tgt := 62) dX7_labelOf_57 (by decide) ?_
        refine v_iret dX7_labelOf_62 rfl (Nat.le_refl _) (Nat.le_refl _) ?_
        exact ⟨by unfold labelOfI; rw [if_pos hgg, if_pos (by decide), nt_nI (n := a) (by omega), nt_nI (n := b) (by omega), nt_nI (n := 3) (by omega), if_neg (by unfold ln; omega)]; rfl, rfl, rfl⟩
    ·
      exact absurd hgb (by rw [b11]; decide)
set_option maxHeartbeats 1000000 in
set_option maxRecDepth 100000 in
theorem k_labelOf4 {w : Wd} {B ns tn : Nat} {σ tx : Nat → Int32} {k : Bool} (h : CR w B σ ns k tx tn) (a b : Nat) (ha : a < 8) (hb : b < 3) : Rd mX7_labelOf 6 [.ref B, .int (nI a), .int (nI b), .int (nI 4)] w (some (.int (labelOfI σ (nI a) (nI b) (nI 4)))) := by
  intro sz
  refine Ev.ofV [some (.ref B), some (.int (nI a)), some (.int (nI b)), some (.int (nI 4)), none] (by decide) (Nat.le_of_ble_eq_true rfl) rfl rfl rfl ?_
  have h00 := h
  obtain ⟨nx, hh, gk, hX, hG⟩ := h00
  have hXb := hX
  obtain ⟨x1, x2, ⟨f0, n0, x3⟩, x4, x5, x6, R0, x7⟩ := hXb
  have hS0 := x4
  obtain ⟨hB, ⟨n, π, κ, hRR⟩, hW, hI, hO⟩ := hS0
  have hBb := hB
  obtain ⟨s1, ⟨li, s2, s2b⟩, ⟨ak, s3, s3b⟩, ⟨ro, s4, s4b⟩, ⟨ac, s5, s5b⟩, ⟨lf, s6, s6b⟩, s7⟩ := hBb
  have hRb := hRR
  obtain ⟨⟨F, r1, r2, r3⟩, hK, hP, hS, hR⟩ := hRb
  have x5b := x5
  obtain ⟨⟨hf, v1, v2, v3⟩, hns, hnx, v4⟩ := x5b
  have hga : inB (nI a) 7 = true := by rw [inB_nI (by omega) (by omega)]; simp; omega
  have hgb : inB (nI b) 2 = true := by rw [inB_nI (by omega) (by omega)]; simp; omega
  have hgg : (inB (nI a) 7 && inB (nI b) 2) = true := by rw [hga, hgb]; rfl
  obtain ⟨vi, hl, hv⟩ := s7 (3 * a + b) (by omega)
  have hlen := (hW.2.2.2.2.2.1 (3 * a + b) (by omega)).1
  refine v_iload_n dX7_labelOf_0 rfl ?_
  refine u_rS1 oX7_isWork dX7_labelOf_1 ml_X7_79 (c_isWork (nI a)) (by decide) (Nat.le_of_ble_eq_true rfl) (Nat.le_refl _) (Nat.le_refl _) ?_
  refine v_if_eqB (tgt := 14) dX7_labelOf_4 (by decide) (fun b4 => ?_) (fun b4 => ?_)
  ·
    exact absurd hga (by rw [b4]; decide)
  ·
    refine v_iload_n dX7_labelOf_7 rfl ?_
    refine u_rS1 oX7_isTongue dX7_labelOf_8 ml_X7_63 (c_isTongue (nI b)) (by decide) (Nat.le_of_ble_eq_true rfl) (Nat.le_refl _) (Nat.le_refl _) ?_
    refine v_if_neB (tgt := 16) dX7_labelOf_11 (by decide) (fun b11 => ?_) (fun b11 => ?_)
    ·
      refine v_iload_n dX7_labelOf_16 rfl ?_
      refine v_if_ltN (tgt := 25) dX7_labelOf_17 (by decide) (by omega) ?_
      refine v_iload_n dX7_labelOf_20 rfl ?_
      refine v_iconst (v := nI 4) dX7_labelOf_21 (by decide) ?_
      refine v_icmp_leN (tgt := 28) dX7_labelOf_22 (by decide) (by decide) (by decide) (fun _ => ?_) (fun z => absurd z (by decide))
      refine v_aload_n dX7_labelOf_28 rfl ?_
      refine v_get 2 dX7_labelOf_29 FTX7 (by decide) rfl fl_X7_26 x1 rfl ?_
      refine v_get 4 dX7_labelOf_32 FTX4 (by decide) rfl fl_X7_91 s1 rfl ?_
      refine v_iload_n dX7_labelOf_35 rfl ?_
      refine v_iload_n dX7_labelOf_36 rfl ?_
      refine u_rS2 oX7_placeOf dX7_labelOf_37 ml_X7_95 (c_place7 a b) (by decide) (Nat.le_of_ble_eq_true rfl) (Nat.le_refl _) (Nat.le_refl _) ?_
      refine v_aald _ (by decide) dX7_labelOf_40 s6 rfl (by omega) (by decide) (s6b (3 * a + b) (by omega)) ?_
      refine v_astore dX7_labelOf_41 (by decide) rfl ?_
      refine v_aload dX7_labelOf_43 rfl ?_
      refine u_rV0 oX1_stands dX7_labelOf_45 ml_X7_118 (c_stands hl) hl.1 (by decide) (Nat.le_of_ble_eq_true rfl) (Nat.le_refl _) (Nat.le_refl _) ?_
      refine v_if_eqB (tgt := 60) dX7_labelOf_48 (by decide) (fun b48 => ?_) (fun b48 => ?_)
      ·
        have c48 := of_decide_eq_false b48
        refine v_bipush (v := -5) dX7_labelOf_60 (by decide) ?_
        refine v_iret dX7_labelOf_62 rfl (Nat.le_refl _) (Nat.le_refl _) ?_
        exact ⟨by unfold labelOfI; rw [if_pos hgg, if_pos (by decide), nt_nI (n := a) (by omega), nt_nI (n := b) (by omega), nt_nI (n := 4) (by omega), if_pos (by unfold ln; omega)], rfl, rfl⟩
      ·
        have b48 := of_decide_eq_true b48
        refine v_aload dX7_labelOf_51 rfl ?_
        refine v_iload_n dX7_labelOf_53 rfl ?_
        refine u_rV1 oX1_told dX7_labelOf_54 ml_X7_190 (c_ltold4 hl) hl.1 (by decide) (Nat.le_of_ble_eq_true rfl) (Nat.le_refl _) (Nat.le_refl _) ?_
        refine v_goto (tgt := 62) dX7_labelOf_57 (by decide) ?_
        refine v_iret dX7_labelOf_62 rfl (Nat.le_refl _) (Nat.le_refl _) ?_
        exact ⟨by unfold labelOfI; rw [if_pos hgg, if_pos (by decide), nt_nI (n := a) (by omega), nt_nI (n := b) (by omega), nt_nI (n := 4) (by omega), if_neg (by unfold ln; omega)]; rfl, rfl, rfl⟩
    ·
      exact absurd hgb (by rw [b11]; decide)
theorem k_labelOf {w : Wd} {B ns tn : Nat} {σ tx : Nat → Int32} {k : Bool} (h : CR w B σ ns k tx tn) (x y z : Int32) : Rd mX7_labelOf 6 [.ref B, .int x, .int y, .int z] w (some (.int (labelOfI σ x y z))) := by
  by_cases hg : (inB x 7 && inB y 2) = false
  · exact k_labelOf_no h x y z hg
  · have h2 := bfalse hg
    simp only [Bool.and_eq_true] at h2
    have hx := inB_ub (by omega) h2.1
    have hy := inB_ub (by omega) h2.2
    rw [hx.1, hy.1]
    by_cases h3 : inB z 4 = false
    · exact k_labelOf_out h (nt x) (nt y) hx.2 hy.2 z h3
    · have hz := inB_ub (by omega) (bfalse h3)
      have hz2 := hz.2
      rw [hz.1]
      rcases Nat.lt_or_ge (nt z) 1 with q | q
      · rw [show nt z = 0 by omega]
        exact k_labelOf0 h (nt x) (nt y) hx.2 hy.2
      · rcases Nat.lt_or_ge (nt z) 2 with q | q
        · rw [show nt z = 1 by omega]
          exact k_labelOf1 h (nt x) (nt y) hx.2 hy.2
        · rcases Nat.lt_or_ge (nt z) 3 with q | q
          · rw [show nt z = 2 by omega]
            exact k_labelOf2 h (nt x) (nt y) hx.2 hy.2
          · rcases Nat.lt_or_ge (nt z) 4 with q | q
            · rw [show nt z = 3 by omega]
              exact k_labelOf3 h (nt x) (nt y) hx.2 hy.2
            · rw [show nt z = 4 by omega]
              exact k_labelOf4 h (nt x) (nt y) hx.2 hy.2
theorem fsO_some {p : Nat → Bool} {n i : Nat} (h : fsO p n = some i) : i < n ∧ p i = true := by
  unfold fsO at h
  by_cases e : fst p n < n
  · rw [if_pos e] at h
    have := Option.some.inj h
    rw [← this]
    exact ⟨e, fst_yes p n e⟩
  · rw [if_neg e] at h
    cases h
theorem fsO_none {p : Nat → Bool} {n : Nat} (h : fsO p n = none) : ∀ i, i < n → p i = false := by
  unfold fsO at h
  by_cases e : fst p n < n
  · rw [if_pos e] at h
    cases h
  · intro i hi
    have := fst_le p n
    exact fst_no p n i (by omega)
theorem rk_none {g : Nat → Int32} {n p : Nat} {κ : Nat → Nat} {z : Int32} (hK : KR g n κ) (h : ∀ i, i < n → (g (1808 + 65 * κ i + 1) == nI p && nI (cnt (ahd g (κ i)) 16) == z) = false) : rkI g p z = -5 := by
  unfold rkI
  rw [if_neg]
  intro e
  have hy := fst_yes (rkB g p z) 16 e
  obtain ⟨q, eq⟩ : ∃ q, q = fst (rkB g p z) 16 := ⟨_, rfl⟩
  rw [← eq] at hy e
  unfold rkB cand at hy
  rw [Bool.and_eq_true, Bool.and_eq_true, decide_eq_true_eq] at hy
  obtain ⟨i, hi, e2⟩ := hK.2.2.2 q e hy.1.1
  have := h i hi
  rw [e2, hy.1.2, hy.2] at this
  cases this
theorem rk_some {g : Nat → Int32} {n p i : Nat} {κ : Nat → Nat} {z : Int32} (hK : KR g n κ) (hi : i < n) (h : (g (1808 + 65 * κ i + 1) == nI p && nI (cnt (ahd g (κ i)) 16) == z) = true) : rkI g p z = g (1808 + 65 * κ i) := by
  have hk := hK.2.1 i hi
  rw [Bool.and_eq_true] at h
  have hB : rkB g p z (κ i) = true := by
    unfold rkB cand
    rw [decide_eq_true hk.2, h.1, h.2]
    rfl
  have hlt := fst_lt hk.1 hB
  unfold rkI
  rw [if_pos hlt]
  have hy := fst_yes (rkB g p z) 16 hlt
  obtain ⟨q, eq⟩ : ∃ q, q = fst (rkB g p z) 16 := ⟨_, rfl⟩
  rw [← eq] at hy hlt ⊢
  unfold rkB cand at hy
  rw [Bool.and_eq_true, Bool.and_eq_true, decide_eq_true_eq] at hy
  have e1 : g (1808 + 65 * q + 1) = nI p := by simpa using hy.1.2
  have e2 : g (1808 + 65 * κ i + 1) = nI p := by simpa using h.1
  have e3 : nI (cnt (ahd g q) 16) = z := by simpa using hy.2
  have e4 : nI (cnt (ahd g (κ i)) 16) = z := by simpa using h.2
  have c1 := cnt_le (ahd g q) 16
  have c2 := cnt_le (ahd g (κ i)) 16
  have := rank_inj hK.di hlt hk.1 hy.1.1 hk.2 (e1.trans e2.symm) (nI_inj (by omega) (by omega) (e3.trans e4.symm))
  rw [this]
set_option maxHeartbeats 1000000 in
set_option maxRecDepth 100000 in
theorem k_ranked_no {w : Wd} {B ns tn : Nat} {σ tx : Nat → Int32} {k : Bool} (h : CR w B σ ns k tx tn) (x y z : Int32) (hg : (inB x 7 && inB y 2) = false) : Rd mX7_ranked 6 [.ref B, .int x, .int y, .int z] w (some (.int (rankedI σ x y z))) := by
  intro sz
  refine Ev.ofV [some (.ref B), some (.int x), some (.int y), some (.int z), none] (by decide) (Nat.le_of_ble_eq_true rfl) rfl rfl rfl ?_
  have h00 := h
  obtain ⟨nx, hh, gk, hX, hG⟩ := h00
  have hXb := hX
  obtain ⟨x1, x2, ⟨f0, n0, x3⟩, x4, x5, x6, R0, x7⟩ := hXb
  have hS0 := x4
  obtain ⟨hB, ⟨n, π, κ, hRR⟩, hW, hI, hO⟩ := hS0
  have hBb := hB
  obtain ⟨s1, ⟨li, s2, s2b⟩, ⟨ak, s3, s3b⟩, ⟨ro, s4, s4b⟩, ⟨ac, s5, s5b⟩, ⟨lf, s6, s6b⟩, s7⟩ := hBb
  have hRb := hRR
  obtain ⟨⟨F, r1, r2, r3⟩, hK, hP, hS, hR⟩ := hRb
  have x5b := x5
  obtain ⟨⟨hf, v1, v2, v3⟩, hns, hnx, v4⟩ := x5b
  refine v_iload_n dX7_ranked_0 rfl ?_
  refine u_rS1 oX7_isWork dX7_ranked_1 ml_X7_79 (c_isWork x) (by decide) (Nat.le_of_ble_eq_true rfl) (Nat.le_refl _) (Nat.le_refl _) ?_
  refine v_if_eqB (tgt := 14) dX7_ranked_4 (by decide) (fun b4 => ?_) (fun b4 => ?_)
  ·
    refine v_iconst (v := -1) dX7_ranked_14 (by decide) ?_
    refine v_iret dX7_ranked_15 rfl (Nat.le_refl _) (Nat.le_refl _) ?_
    exact ⟨by unfold rankedI; rw [if_neg (by rw [hg]; decide)], rfl, rfl⟩
  ·
    refine v_iload_n dX7_ranked_7 rfl ?_
    refine u_rS1 oX7_isTongue dX7_ranked_8 ml_X7_63 (c_isTongue y) (by decide) (Nat.le_of_ble_eq_true rfl) (Nat.le_refl _) (Nat.le_refl _) ?_
    refine v_if_neB (tgt := 16) dX7_ranked_11 (by decide) (fun b11 => ?_) (fun b11 => ?_)
    ·
      exact absurd hg (by rw [b4, b11]; decide)
    ·
      refine v_iconst (v := -1) dX7_ranked_14 (by decide) ?_
      refine v_iret dX7_ranked_15 rfl (Nat.le_refl _) (Nat.le_refl _) ?_
      exact ⟨by unfold rankedI; rw [if_neg (by rw [hg]; decide)], rfl, rfl⟩
set_option maxHeartbeats 1000000 in
set_option maxRecDepth 100000 in
theorem k_ranked_neg {w : Wd} {B ns tn : Nat} {σ tx : Nat → Int32} {k : Bool} (h : CR w B σ ns k tx tn) (a b : Nat) (ha : a < 8) (hb : b < 3) (z : Int32) (hz : z < 0) : Rd mX7_ranked 6 [.ref B, .int (nI a), .int (nI b), .int z] w (some (.int (rankedI σ (nI a) (nI b) z))) := by
  intro sz
  refine Ev.ofV [some (.ref B), some (.int (nI a)), some (.int (nI b)), some (.int z), none] (by decide) (Nat.le_of_ble_eq_true rfl) rfl rfl rfl ?_
  have h00 := h
  obtain ⟨nx, hh, gk, hX, hG⟩ := h00
  have hXb := hX
  obtain ⟨x1, x2, ⟨f0, n0, x3⟩, x4, x5, x6, R0, x7⟩ := hXb
  have hS0 := x4
  obtain ⟨hB, ⟨n, π, κ, hRR⟩, hW, hI, hO⟩ := hS0
  have hBb := hB
  obtain ⟨s1, ⟨li, s2, s2b⟩, ⟨ak, s3, s3b⟩, ⟨ro, s4, s4b⟩, ⟨ac, s5, s5b⟩, ⟨lf, s6, s6b⟩, s7⟩ := hBb
  have hRb := hRR
  obtain ⟨⟨F, r1, r2, r3⟩, hK, hP, hS, hR⟩ := hRb
  have x5b := x5
  obtain ⟨⟨hf, v1, v2, v3⟩, hns, hnx, v4⟩ := x5b
  have hga : inB (nI a) 7 = true := by rw [inB_nI (by omega) (by omega)]; simp; omega
  have hgb : inB (nI b) 2 = true := by rw [inB_nI (by omega) (by omega)]; simp; omega
  have hgg : (inB (nI a) 7 && inB (nI b) 2) = true := by rw [hga, hgb]; rfl
  refine v_iload_n dX7_ranked_0 rfl ?_
  refine u_rS1 oX7_isWork dX7_ranked_1 ml_X7_79 (c_isWork (nI a)) (by decide) (Nat.le_of_ble_eq_true rfl) (Nat.le_refl _) (Nat.le_refl _) ?_
  refine v_if_eqB (tgt := 14) dX7_ranked_4 (by decide) (fun b4 => ?_) (fun b4 => ?_)
  ·
    exact absurd hga (by rw [b4]; decide)
  ·
    refine v_iload_n dX7_ranked_7 rfl ?_
    refine u_rS1 oX7_isTongue dX7_ranked_8 ml_X7_63 (c_isTongue (nI b)) (by decide) (Nat.le_of_ble_eq_true rfl) (Nat.le_refl _) (Nat.le_refl _) ?_
    refine v_if_neB (tgt := 16) dX7_ranked_11 (by decide) (fun b11 => ?_) (fun b11 => ?_)
    ·
      refine v_iload_n dX7_ranked_16 rfl ?_
      refine v_if_ge (tgt := 23) dX7_ranked_17 (by decide) (fun b17 => ?_) (fun b17 => ?_)
      ·
        exact absurd hz (Int32.not_lt.mpr b17)
      ·
        refine v_bipush (v := -2) dX7_ranked_20 (by decide) ?_
        refine v_iret dX7_ranked_22 rfl (Nat.le_refl _) (Nat.le_refl _) ?_
        exact ⟨by unfold rankedI; rw [if_pos hgg, if_pos hz], rfl, rfl⟩
    ·
      exact absurd hgb (by rw [b11]; decide)
set_option maxHeartbeats 1000000 in
set_option maxRecDepth 100000 in
theorem k_rankedN {w : Wd} {B ns tn : Nat} {σ tx : Nat → Int32} {k : Bool} (h : CR w B σ ns k tx tn) (a b : Nat) (ha : a < 8) (hb : b < 3) (z : Int32) (hz : ¬ z < 0) : Rd mX7_ranked 6 [.ref B, .int (nI a), .int (nI b), .int z] w (some (.int (rankedI σ (nI a) (nI b) z))) := by
  intro sz
  refine Ev.ofV [some (.ref B), some (.int (nI a)), some (.int (nI b)), some (.int z), none] (by decide) (Nat.le_of_ble_eq_true rfl) rfl rfl rfl ?_
  have h00 := h
  obtain ⟨nx, hh, gk, hX, hG⟩ := h00
  have hXb := hX
  obtain ⟨x1, x2, ⟨f0, n0, x3⟩, x4, x5, x6, R0, x7⟩ := hXb
  have hS0 := x4
  obtain ⟨hB, ⟨n, π, κ, hRR⟩, hW, hI, hO⟩ := hS0
  have hBb := hB
  obtain ⟨s1, ⟨li, s2, s2b⟩, ⟨ak, s3, s3b⟩, ⟨ro, s4, s4b⟩, ⟨ac, s5, s5b⟩, ⟨lf, s6, s6b⟩, s7⟩ := hBb
  have hRb := hRR
  obtain ⟨⟨F, r1, r2, r3⟩, hK, hP, hS, hR⟩ := hRb
  have x5b := x5
  obtain ⟨⟨hf, v1, v2, v3⟩, hns, hnx, v4⟩ := x5b
  have hga : inB (nI a) 7 = true := by rw [inB_nI (by omega) (by omega)]; simp; omega
  have hgb : inB (nI b) 2 = true := by rw [inB_nI (by omega) (by omega)]; simp; omega
  have hgg : (inB (nI a) 7 && inB (nI b) 2) = true := by rw [hga, hgb]; rfl
  refine v_iload_n dX7_ranked_0 rfl ?_
  refine u_rS1 oX7_isWork dX7_ranked_1 ml_X7_79 (c_isWork (nI a)) (by decide) (Nat.le_of_ble_eq_true rfl) (Nat.le_refl _) (Nat.le_refl _) ?_
  refine v_if_eqB (tgt := 14) dX7_ranked_4 (by decide) (fun b4 => ?_) (fun b4 => ?_)
  ·
    exact absurd hga (by rw [b4]; decide)
  ·
    refine v_iload_n dX7_ranked_7 rfl ?_
    refine u_rS1 oX7_isTongue dX7_ranked_8 ml_X7_63 (c_isTongue (nI b)) (by decide) (Nat.le_of_ble_eq_true rfl) (Nat.le_refl _) (Nat.le_refl _) ?_
    refine v_if_neB (tgt := 16) dX7_ranked_11 (by decide) (fun b11 => ?_) (fun b11 => ?_)
    ·
      refine v_iload_n dX7_ranked_16 rfl ?_
      refine v_if_ge (tgt := 23) dX7_ranked_17 (by decide) (fun b17 => ?_) (fun b17 => ?_)
      ·
        refine v_aload_n dX7_ranked_23 rfl ?_
        refine v_get 2 dX7_ranked_24 FTX7 (by decide) rfl fl_X7_26 x1 rfl ?_
        refine v_get 5 dX7_ranked_27 FTX4 (by decide) rfl fl_X7_131 s1 rfl ?_
        refine v_iload_n dX7_ranked_30 rfl ?_
        refine v_iload_n dX7_ranked_31 rfl ?_
        refine u_rS2 oX7_placeOf dX7_ranked_32 ml_X7_95 (c_place7 a b) (by decide) (Nat.le_of_ble_eq_true rfl) (Nat.le_refl _) (Nat.le_refl _) ?_
        refine v_iload_n dX7_ranked_35 rfl ?_
        refine u_rV2 oX3_atRank dX7_ranked_36 ml_X7_209 (c_atRank hRR hW hI (nI (3 * a + b)) z) r1 (by decide) (Nat.le_of_ble_eq_true rfl) (Nat.le_refl _) (Nat.le_refl _) ?_
        have eI : rankedI σ (nI a) (nI b) z = rkI σ (3 * a + b) z := by
          unfold rankedI
          rw [if_pos hgg, if_neg hz, nt_nI (n := a) (by omega), nt_nI (n := b) (by omega)]
        cases hc : fsO (fun i => σ (1808 + 65 * κ i + 1) == nI (3 * a + b) && nI (cnt (ahd σ (κ i)) 16) == z) n with
        | none =>
          refine v_astoreN dX7_ranked_39 (by decide) rfl ?_
          refine v_aloadN dX7_ranked_41 rfl ?_
          refine v_ifnonnullN dX7_ranked_43 ?_
          refine v_bipush (v := -5) dX7_ranked_46 (by decide) ?_
          refine v_goto (tgt := 56) dX7_ranked_48 (by decide) ?_
          refine v_iret dX7_ranked_56 rfl (Nat.le_refl _) (Nat.le_refl _) ?_
          exact ⟨by rw [eI, rk_none hK (fsO_none hc)], rfl, rfl⟩
        | some i =>
          have hi := fsO_some hc
          obtain ⟨Vt, hr⟩ := hR i hi.1
          refine v_astore dX7_ranked_39 (by decide) rfl ?_
          refine v_aload dX7_ranked_41 rfl ?_
          refine v_ifnonnull (tgt := 51) dX7_ranked_43 (by decide) ?_
          refine v_aload dX7_ranked_51 rfl ?_
          refine v_get 1 dX7_ranked_53 FTX2 (by decide) rfl fl_X7_213 hr.1.1 rfl ?_
          refine v_iret dX7_ranked_56 rfl (Nat.le_refl _) (Nat.le_refl _) ?_
          exact ⟨by rw [eI, rk_some hK hi.1 hi.2], rfl, rfl⟩
      ·
        exact absurd (Int32.not_le.mp b17) hz
    ·
      exact absurd hgb (by rw [b11]; decide)
theorem k_ranked {w : Wd} {B ns tn : Nat} {σ tx : Nat → Int32} {k : Bool} (h : CR w B σ ns k tx tn) (x y z : Int32) : Rd mX7_ranked 6 [.ref B, .int x, .int y, .int z] w (some (.int (rankedI σ x y z))) := by
  by_cases hg : (inB x 7 && inB y 2) = false
  · exact k_ranked_no h x y z hg
  · have h2 := bfalse hg
    simp only [Bool.and_eq_true] at h2
    have hx := inB_ub (by omega) h2.1
    have hy := inB_ub (by omega) h2.2
    rw [hx.1, hy.1]
    by_cases h3 : z < 0
    · exact k_ranked_neg h (nt x) (nt y) hx.2 hy.2 z h3
    · exact k_rankedN h (nt x) (nt y) hx.2 hy.2 z h3
