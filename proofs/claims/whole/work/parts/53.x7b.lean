set_option maxHeartbeats 1000000 in
set_option maxRecDepth 100000 in
theorem k_room_no {w : Wd} {B ns tn : Nat} {σ tx : Nat → Int32} {k : Bool} (h : CR w B σ ns k tx tn) (x z : Int32) (hg : inB x 3 = false) : Rd mX7_room 6 [.ref B, .int x, .int z] w (some (.int (roomI σ x z))) := by
  intro sz
  refine Ev.ofV [some (.ref B), some (.int x), some (.int z)] (by decide) (Nat.le_of_ble_eq_true rfl) rfl rfl rfl ?_
  have h00 := h
  obtain ⟨nx, hh, gk, hX, hG⟩ := h00
  have hXb := hX
  obtain ⟨x1, x2, ⟨f0, n0, x3⟩, x4, x5, x6, R0, x7⟩ := hXb
  have hS0 := x4
  obtain ⟨hB, ⟨n, π, κ, hRR⟩, hW, hI, hO⟩ := hS0
  have hBb := hB
  obtain ⟨s1, ⟨li, s2, s2b⟩, ⟨ak, s3, s3b⟩, ⟨ro, s4, s4b⟩, ⟨ac, s5, s5b⟩, ⟨lf, s6, s6b⟩, s7⟩ := hBb
  have hRb := hRR
  obtain ⟨⟨F, r1, r2, r3⟩, hK, hP, hS, hR⟩ := hRb
  have x5b := x5
  obtain ⟨⟨hf, v1, v2, v3⟩, hns, hnx, v4⟩ := x5b
  refine v_iload_n dX7_room_0 rfl ?_
  refine u_rS1 oX7_isRoom dX7_room_1 ml_X7_48 (c_isRoom x) (by decide) (Nat.le_of_ble_eq_true rfl) (Nat.le_refl _) (Nat.le_refl _) ?_
  refine v_if_neB (tgt := 9) dX7_room_4 (by decide) (fun b4 => ?_) (fun b4 => ?_)
  ·
    exact absurd hg (by rw [b4]; decide)
  ·
    refine v_iconst (v := -1) dX7_room_7 (by decide) ?_
    refine v_iret dX7_room_8 rfl (Nat.le_refl _) (Nat.le_refl _) ?_
    exact ⟨by unfold roomI; rw [if_neg (by rw [hg]; decide)], rfl, rfl⟩
set_option maxHeartbeats 1000000 in
set_option maxRecDepth 100000 in
theorem k_room_out {w : Wd} {B ns tn : Nat} {σ tx : Nat → Int32} {k : Bool} (h : CR w B σ ns k tx tn) (a : Nat) (ha : a < 4) (z : Int32) (hz : inB z 6 = false) : Rd mX7_room 6 [.ref B, .int (nI a), .int z] w (some (.int (roomI σ (nI a) z))) := by
  intro sz
  refine Ev.ofV [some (.ref B), some (.int (nI a)), some (.int z)] (by decide) (Nat.le_of_ble_eq_true rfl) rfl rfl rfl ?_
  have h00 := h
  obtain ⟨nx, hh, gk, hX, hG⟩ := h00
  have hXb := hX
  obtain ⟨x1, x2, ⟨f0, n0, x3⟩, x4, x5, x6, R0, x7⟩ := hXb
  have hS0 := x4
  obtain ⟨hB, ⟨n, π, κ, hRR⟩, hW, hI, hO⟩ := hS0
  have hBb := hB
  obtain ⟨s1, ⟨li, s2, s2b⟩, ⟨ak, s3, s3b⟩, ⟨ro, s4, s4b⟩, ⟨ac, s5, s5b⟩, ⟨lf, s6, s6b⟩, s7⟩ := hBb
  have hRb := hRR
  obtain ⟨⟨F, r1, r2, r3⟩, hK, hP, hS, hR⟩ := hRb
  have x5b := x5
  obtain ⟨⟨hf, v1, v2, v3⟩, hns, hnx, v4⟩ := x5b
  have hga : inB (nI a) 3 = true := by rw [inB_nI (by omega) (by omega)]; simp; omega
  refine v_iload_n dX7_room_0 rfl ?_
  refine u_rS1 oX7_isRoom dX7_room_1 ml_X7_48 (c_isRoom (nI a)) (by decide) (Nat.le_of_ble_eq_true rfl) (Nat.le_refl _) (Nat.le_refl _) ?_
  refine v_if_neB (tgt := 9) dX7_room_4 (by decide) (fun b4 => ?_) (fun b4 => ?_)
  ·
    refine v_iload_n dX7_room_9 rfl ?_
    refine v_tableOut (tgt := 119) dX7_room_10 (inB_out (b := 6) (by omega) hz) (by decide) ?_
    refine v_bipush (v := -2) dX7_room_119 (by decide) ?_
    refine v_iret dX7_room_121 rfl (Nat.le_refl _) (Nat.le_refl _) ?_
    exact ⟨by unfold roomI; rw [if_pos hga, if_neg (by rw [hz]; decide)], rfl, rfl⟩
  ·
    exact absurd hga (by rw [b4]; decide)
set_option maxHeartbeats 1000000 in
set_option maxRecDepth 100000 in
theorem k_room0 {w : Wd} {B ns tn : Nat} {σ tx : Nat → Int32} {k : Bool} (h : CR w B σ ns k tx tn) (a : Nat) (ha : a < 4) : Rd mX7_room 6 [.ref B, .int (nI a), .int (nI 0)] w (some (.int (roomI σ (nI a) (nI 0)))) := by
  intro sz
  refine Ev.ofV [some (.ref B), some (.int (nI a)), some (.int (nI 0))] (by decide) (Nat.le_of_ble_eq_true rfl) rfl rfl rfl ?_
  have h00 := h
  obtain ⟨nx, hh, gk, hX, hG⟩ := h00
  have hXb := hX
  obtain ⟨x1, x2, ⟨f0, n0, x3⟩, x4, x5, x6, R0, x7⟩ := hXb
  have hS0 := x4
  obtain ⟨hB, ⟨n, π, κ, hRR⟩, hW, hI, hO⟩ := hS0
  have hBb := hB
  obtain ⟨s1, ⟨li, s2, s2b⟩, ⟨ak, s3, s3b⟩, ⟨ro, s4, s4b⟩, ⟨ac, s5, s5b⟩, ⟨lf, s6, s6b⟩, s7⟩ := hBb
  have hRb := hRR
  obtain ⟨⟨F, r1, r2, r3⟩, hK, hP, hS, hR⟩ := hRb
  have x5b := x5
  obtain ⟨⟨hf, v1, v2, v3⟩, hns, hnx, v4⟩ := x5b
  have hga : inB (nI a) 3 = true := by rw [inB_nI (by omega) (by omega)]; simp; omega
  refine v_iload_n dX7_room_0 rfl ?_
  refine u_rS1 oX7_isRoom dX7_room_1 ml_X7_48 (c_isRoom (nI a)) (by decide) (Nat.le_of_ble_eq_true rfl) (Nat.le_refl _) (Nat.le_refl _) ?_
  refine v_if_neB (tgt := 9) dX7_room_4 (by decide) (fun b4 => ?_) (fun b4 => ?_)
  ·
    refine v_iload_n dX7_room_9 rfl ?_
    refine v_tableIn (tgt := 52) (off := 42) dX7_room_10 (by decide) (by decide) (by decide) (by decide) ?_
    refine v_aload_n dX7_room_52 rfl ?_
    refine v_get 2 dX7_room_53 FTX7 (by decide) rfl fl_X7_26 x1 rfl ?_
    refine v_get 0 dX7_room_56 FTX4 (by decide) rfl fl_X7_52 s1 rfl ?_
    refine v_iload_n dX7_room_59 rfl ?_
    refine v_ialdE _ dX7_room_60 s2 rfl (by omega) (by decide) (s2b a ha) ?_
    refine v_iret dX7_room_61 rfl (Nat.le_refl _) (Nat.le_refl _) ?_
    exact ⟨by unfold roomI; rw [if_pos hga, if_pos (by decide), nt_nI (n := a) (by omega), nt_nI (n := 0) (by omega)]; try rfl, rfl, rfl⟩
  ·
    exact absurd hga (by rw [b4]; decide)
set_option maxHeartbeats 1000000 in
set_option maxRecDepth 100000 in
theorem k_room1 {w : Wd} {B ns tn : Nat} {σ tx : Nat → Int32} {k : Bool} (h : CR w B σ ns k tx tn) (a : Nat) (ha : a < 4) : Rd mX7_room 6 [.ref B, .int (nI a), .int (nI 1)] w (some (.int (roomI σ (nI a) (nI 1)))) := by
  intro sz
  refine Ev.ofV [some (.ref B), some (.int (nI a)), some (.int (nI 1))] (by decide) (Nat.le_of_ble_eq_true rfl) rfl rfl rfl ?_
  have h00 := h
  obtain ⟨nx, hh, gk, hX, hG⟩ := h00
  have hXb := hX
  obtain ⟨x1, x2, ⟨f0, n0, x3⟩, x4, x5, x6, R0, x7⟩ := hXb
  have hS0 := x4
  obtain ⟨hB, ⟨n, π, κ, hRR⟩, hW, hI, hO⟩ := hS0
  have hBb := hB
  obtain ⟨s1, ⟨li, s2, s2b⟩, ⟨ak, s3, s3b⟩, ⟨ro, s4, s4b⟩, ⟨ac, s5, s5b⟩, ⟨lf, s6, s6b⟩, s7⟩ := hBb
  have hRb := hRR
  obtain ⟨⟨F, r1, r2, r3⟩, hK, hP, hS, hR⟩ := hRb
  have x5b := x5
  obtain ⟨⟨hf, v1, v2, v3⟩, hns, hnx, v4⟩ := x5b
  have hga : inB (nI a) 3 = true := by rw [inB_nI (by omega) (by omega)]; simp; omega
  refine v_iload_n dX7_room_0 rfl ?_
  refine u_rS1 oX7_isRoom dX7_room_1 ml_X7_48 (c_isRoom (nI a)) (by decide) (Nat.le_of_ble_eq_true rfl) (Nat.le_refl _) (Nat.le_refl _) ?_
  refine v_if_neB (tgt := 9) dX7_room_4 (by decide) (fun b4 => ?_) (fun b4 => ?_)
  ·
    refine v_iload_n dX7_room_9 rfl ?_
    refine v_tableIn (tgt := 62) (off := 52) dX7_room_10 (by decide) (by decide) (by decide) (by decide) ?_
    refine v_aload_n dX7_room_62 rfl ?_
    refine v_get 2 dX7_room_63 FTX7 (by decide) rfl fl_X7_26 x1 rfl ?_
    refine v_iload_n dX7_room_66 rfl ?_
    refine u_rV1 oX4_worksIn dX7_room_67 ml_X7_216 (c_worksIn x4 (nI a)) s1 (by decide) (Nat.le_of_ble_eq_true rfl) (Nat.le_refl _) (Nat.le_refl _) ?_
    refine v_iret dX7_room_70 rfl (Nat.le_refl _) (Nat.le_refl _) ?_
    exact ⟨by unfold roomI; rw [if_pos hga, if_pos (by decide), nt_nI (n := a) (by omega), nt_nI (n := 1) (by omega)]; try rfl, rfl, rfl⟩
  ·
    exact absurd hga (by rw [b4]; decide)
set_option maxHeartbeats 1000000 in
set_option maxRecDepth 100000 in
theorem k_room2 {w : Wd} {B ns tn : Nat} {σ tx : Nat → Int32} {k : Bool} (h : CR w B σ ns k tx tn) (a : Nat) (ha : a < 4) : Rd mX7_room 6 [.ref B, .int (nI a), .int (nI 2)] w (some (.int (roomI σ (nI a) (nI 2)))) := by
  intro sz
  refine Ev.ofV [some (.ref B), some (.int (nI a)), some (.int (nI 2))] (by decide) (Nat.le_of_ble_eq_true rfl) rfl rfl rfl ?_
  have h00 := h
  obtain ⟨nx, hh, gk, hX, hG⟩ := h00
  have hXb := hX
  obtain ⟨x1, x2, ⟨f0, n0, x3⟩, x4, x5, x6, R0, x7⟩ := hXb
  have hS0 := x4
  obtain ⟨hB, ⟨n, π, κ, hRR⟩, hW, hI, hO⟩ := hS0
  have hBb := hB
  obtain ⟨s1, ⟨li, s2, s2b⟩, ⟨ak, s3, s3b⟩, ⟨ro, s4, s4b⟩, ⟨ac, s5, s5b⟩, ⟨lf, s6, s6b⟩, s7⟩ := hBb
  have hRb := hRR
  obtain ⟨⟨F, r1, r2, r3⟩, hK, hP, hS, hR⟩ := hRb
  have x5b := x5
  obtain ⟨⟨hf, v1, v2, v3⟩, hns, hnx, v4⟩ := x5b
  have hga : inB (nI a) 3 = true := by rw [inB_nI (by omega) (by omega)]; simp; omega
  refine v_iload_n dX7_room_0 rfl ?_
  refine u_rS1 oX7_isRoom dX7_room_1 ml_X7_48 (c_isRoom (nI a)) (by decide) (Nat.le_of_ble_eq_true rfl) (Nat.le_refl _) (Nat.le_refl _) ?_
  refine v_if_neB (tgt := 9) dX7_room_4 (by decide) (fun b4 => ?_) (fun b4 => ?_)
  ·
    refine v_iload_n dX7_room_9 rfl ?_
    refine v_tableIn (tgt := 71) (off := 61) dX7_room_10 (by decide) (by decide) (by decide) (by decide) ?_
    refine v_aload_n dX7_room_71 rfl ?_
    refine v_get 2 dX7_room_72 FTX7 (by decide) rfl fl_X7_26 x1 rfl ?_
    refine v_get 1 dX7_room_75 FTX4 (by decide) rfl fl_X7_70 s1 rfl ?_
    refine v_iload_n dX7_room_78 rfl ?_
    refine v_ialdE _ dX7_room_79 s3 rfl (by omega) (by decide) (s3b a ha) ?_
    refine v_iret dX7_room_80 rfl (Nat.le_refl _) (Nat.le_refl _) ?_
    exact ⟨by unfold roomI; rw [if_pos hga, if_pos (by decide), nt_nI (n := a) (by omega), nt_nI (n := 2) (by omega)]; try rfl, rfl, rfl⟩
  ·
    exact absurd hga (by rw [b4]; decide)
set_option maxHeartbeats 1000000 in
set_option maxRecDepth 100000 in
theorem k_room3 {w : Wd} {B ns tn : Nat} {σ tx : Nat → Int32} {k : Bool} (h : CR w B σ ns k tx tn) (a : Nat) (ha : a < 4) : Rd mX7_room 6 [.ref B, .int (nI a), .int (nI 3)] w (some (.int (roomI σ (nI a) (nI 3)))) := by
  intro sz
  refine Ev.ofV [some (.ref B), some (.int (nI a)), some (.int (nI 3))] (by decide) (Nat.le_of_ble_eq_true rfl) rfl rfl rfl ?_
  have h00 := h
  obtain ⟨nx, hh, gk, hX, hG⟩ := h00
  have hXb := hX
  obtain ⟨x1, x2, ⟨f0, n0, x3⟩, x4, x5, x6, R0, x7⟩ := hXb
  have hS0 := x4
  obtain ⟨hB, ⟨n, π, κ, hRR⟩, hW, hI, hO⟩ := hS0
  have hBb := hB
  obtain ⟨s1, ⟨li, s2, s2b⟩, ⟨ak, s3, s3b⟩, ⟨ro, s4, s4b⟩, ⟨ac, s5, s5b⟩, ⟨lf, s6, s6b⟩, s7⟩ := hBb
  have hRb := hRR
  obtain ⟨⟨F, r1, r2, r3⟩, hK, hP, hS, hR⟩ := hRb
  have x5b := x5
  obtain ⟨⟨hf, v1, v2, v3⟩, hns, hnx, v4⟩ := x5b
  have hga : inB (nI a) 3 = true := by rw [inB_nI (by omega) (by omega)]; simp; omega
  refine v_iload_n dX7_room_0 rfl ?_
  refine u_rS1 oX7_isRoom dX7_room_1 ml_X7_48 (c_isRoom (nI a)) (by decide) (Nat.le_of_ble_eq_true rfl) (Nat.le_refl _) (Nat.le_refl _) ?_
  refine v_if_neB (tgt := 9) dX7_room_4 (by decide) (fun b4 => ?_) (fun b4 => ?_)
  ·
    refine v_iload_n dX7_room_9 rfl ?_
    refine v_tableIn (tgt := 81) (off := 71) dX7_room_10 (by decide) (by decide) (by decide) (by decide) ?_
    refine v_aload_n dX7_room_81 rfl ?_
    refine v_get 2 dX7_room_82 FTX7 (by decide) rfl fl_X7_26 x1 rfl ?_
    refine v_iload_n dX7_room_85 rfl ?_
    refine v_iconst (v := nI 1) dX7_room_86 (by decide) ?_
    refine u_rV2 oX4_labelsIn dX7_room_87 ml_X7_219 (show Rd mX4_labelsIn 1 [.ref (B + 6), .int (nI a), .int (nI 1)] w (some (.int (nI (lbO σ a 0 8)))) by rw [← lin_T σ a]; exact c_labelsIn x4 a ha true) s1 (by decide) (Nat.le_of_ble_eq_true rfl) (Nat.le_refl _) (Nat.le_refl _) ?_
    refine v_iret dX7_room_90 rfl (Nat.le_refl _) (Nat.le_refl _) ?_
    exact ⟨by unfold roomI; rw [if_pos hga, if_pos (by decide), nt_nI (n := a) (by omega), nt_nI (n := 3) (by omega)]; try rfl, rfl, rfl⟩
  ·
    exact absurd hga (by rw [b4]; decide)
set_option maxHeartbeats 1000000 in
set_option maxRecDepth 100000 in
theorem k_room4 {w : Wd} {B ns tn : Nat} {σ tx : Nat → Int32} {k : Bool} (h : CR w B σ ns k tx tn) (a : Nat) (ha : a < 4) : Rd mX7_room 6 [.ref B, .int (nI a), .int (nI 4)] w (some (.int (roomI σ (nI a) (nI 4)))) := by
  intro sz
  refine Ev.ofV [some (.ref B), some (.int (nI a)), some (.int (nI 4))] (by decide) (Nat.le_of_ble_eq_true rfl) rfl rfl rfl ?_
  have h00 := h
  obtain ⟨nx, hh, gk, hX, hG⟩ := h00
  have hXb := hX
  obtain ⟨x1, x2, ⟨f0, n0, x3⟩, x4, x5, x6, R0, x7⟩ := hXb
  have hS0 := x4
  obtain ⟨hB, ⟨n, π, κ, hRR⟩, hW, hI, hO⟩ := hS0
  have hBb := hB
  obtain ⟨s1, ⟨li, s2, s2b⟩, ⟨ak, s3, s3b⟩, ⟨ro, s4, s4b⟩, ⟨ac, s5, s5b⟩, ⟨lf, s6, s6b⟩, s7⟩ := hBb
  have hRb := hRR
  obtain ⟨⟨F, r1, r2, r3⟩, hK, hP, hS, hR⟩ := hRb
  have x5b := x5
  obtain ⟨⟨hf, v1, v2, v3⟩, hns, hnx, v4⟩ := x5b
  have hga : inB (nI a) 3 = true := by rw [inB_nI (by omega) (by omega)]; simp; omega
  refine v_iload_n dX7_room_0 rfl ?_
  refine u_rS1 oX7_isRoom dX7_room_1 ml_X7_48 (c_isRoom (nI a)) (by decide) (Nat.le_of_ble_eq_true rfl) (Nat.le_refl _) (Nat.le_refl _) ?_
  refine v_if_neB (tgt := 9) dX7_room_4 (by decide) (fun b4 => ?_) (fun b4 => ?_)
  ·
    refine v_iload_n dX7_room_9 rfl ?_
    refine v_tableIn (tgt := 91) (off := 81) dX7_room_10 (by decide) (by decide) (by decide) (by decide) ?_
    refine v_aload_n dX7_room_91 rfl ?_
    refine v_get 2 dX7_room_92 FTX7 (by decide) rfl fl_X7_26 x1 rfl ?_
    refine v_iload_n dX7_room_95 rfl ?_
    refine u_rV1 oX4_missingIn dX7_room_96 ml_X7_223 (c_missingIn x4 a ha) s1 (by decide) (Nat.le_of_ble_eq_true rfl) (Nat.le_refl _) (Nat.le_refl _) ?_
    refine v_iret dX7_room_99 rfl (Nat.le_refl _) (Nat.le_refl _) ?_
    exact ⟨by unfold roomI; rw [if_pos hga, if_pos (by decide), nt_nI (n := a) (by omega), nt_nI (n := 4) (by omega)]; try rfl, rfl, rfl⟩
  ·
    exact absurd hga (by rw [b4]; decide)
set_option maxHeartbeats 1000000 in
set_option maxRecDepth 100000 in
theorem k_room5 {w : Wd} {B ns tn : Nat} {σ tx : Nat → Int32} {k : Bool} (h : CR w B σ ns k tx tn) (a : Nat) (ha : a < 4) : Rd mX7_room 6 [.ref B, .int (nI a), .int (nI 5)] w (some (.int (roomI σ (nI a) (nI 5)))) := by
  intro sz
  refine Ev.ofV [some (.ref B), some (.int (nI a)), some (.int (nI 5))] (by decide) (Nat.le_of_ble_eq_true rfl) rfl rfl rfl ?_
  have h00 := h
  obtain ⟨nx, hh, gk, hX, hG⟩ := h00
  have hXb := hX
  obtain ⟨x1, x2, ⟨f0, n0, x3⟩, x4, x5, x6, R0, x7⟩ := hXb
  have hS0 := x4
  obtain ⟨hB, ⟨n, π, κ, hRR⟩, hW, hI, hO⟩ := hS0
  have hBb := hB
  obtain ⟨s1, ⟨li, s2, s2b⟩, ⟨ak, s3, s3b⟩, ⟨ro, s4, s4b⟩, ⟨ac, s5, s5b⟩, ⟨lf, s6, s6b⟩, s7⟩ := hBb
  have hRb := hRR
  obtain ⟨⟨F, r1, r2, r3⟩, hK, hP, hS, hR⟩ := hRb
  have x5b := x5
  obtain ⟨⟨hf, v1, v2, v3⟩, hns, hnx, v4⟩ := x5b
  have hga : inB (nI a) 3 = true := by rw [inB_nI (by omega) (by omega)]; simp; omega
  refine v_iload_n dX7_room_0 rfl ?_
  refine u_rS1 oX7_isRoom dX7_room_1 ml_X7_48 (c_isRoom (nI a)) (by decide) (Nat.le_of_ble_eq_true rfl) (Nat.le_refl _) (Nat.le_refl _) ?_
  refine v_if_neB (tgt := 9) dX7_room_4 (by decide) (fun b4 => ?_) (fun b4 => ?_)
  ·
    refine v_iload_n dX7_room_9 rfl ?_
    refine v_tableIn (tgt := 100) (off := 90) dX7_room_10 (by decide) (by decide) (by decide) (by decide) ?_
    refine v_aload_n dX7_room_100 rfl ?_
    refine v_get 2 dX7_room_101 FTX7 (by decide) rfl fl_X7_26 x1 rfl ?_
    refine v_iload_n dX7_room_104 rfl ?_
    refine v_iconst (v := nI 0) dX7_room_105 (by decide) ?_
    refine u_rV2 oX4_labelsIn dX7_room_106 ml_X7_219 (show Rd mX4_labelsIn 1 [.ref (B + 6), .int (nI a), .int (nI 0)] w (some (.int (nI (lbO σ a 2 8)))) by rw [← lin_F σ a]; exact c_labelsIn x4 a ha false) s1 (by decide) (Nat.le_of_ble_eq_true rfl) (Nat.le_refl _) (Nat.le_refl _) ?_
    refine v_iret dX7_room_109 rfl (Nat.le_refl _) (Nat.le_refl _) ?_
    exact ⟨by unfold roomI; rw [if_pos hga, if_pos (by decide), nt_nI (n := a) (by omega), nt_nI (n := 5) (by omega)]; try rfl, rfl, rfl⟩
  ·
    exact absurd hga (by rw [b4]; decide)
set_option maxHeartbeats 1000000 in
set_option maxRecDepth 100000 in
theorem k_room6 {w : Wd} {B ns tn : Nat} {σ tx : Nat → Int32} {k : Bool} (h : CR w B σ ns k tx tn) (a : Nat) (ha : a < 4) : Rd mX7_room 6 [.ref B, .int (nI a), .int (nI 6)] w (some (.int (roomI σ (nI a) (nI 6)))) := by
  intro sz
  refine Ev.ofV [some (.ref B), some (.int (nI a)), some (.int (nI 6))] (by decide) (Nat.le_of_ble_eq_true rfl) rfl rfl rfl ?_
  have h00 := h
  obtain ⟨nx, hh, gk, hX, hG⟩ := h00
  have hXb := hX
  obtain ⟨x1, x2, ⟨f0, n0, x3⟩, x4, x5, x6, R0, x7⟩ := hXb
  have hS0 := x4
  obtain ⟨hB, ⟨n, π, κ, hRR⟩, hW, hI, hO⟩ := hS0
  have hBb := hB
  obtain ⟨s1, ⟨li, s2, s2b⟩, ⟨ak, s3, s3b⟩, ⟨ro, s4, s4b⟩, ⟨ac, s5, s5b⟩, ⟨lf, s6, s6b⟩, s7⟩ := hBb
  have hRb := hRR
  obtain ⟨⟨F, r1, r2, r3⟩, hK, hP, hS, hR⟩ := hRb
  have x5b := x5
  obtain ⟨⟨hf, v1, v2, v3⟩, hns, hnx, v4⟩ := x5b
  have hga : inB (nI a) 3 = true := by rw [inB_nI (by omega) (by omega)]; simp; omega
  refine v_iload_n dX7_room_0 rfl ?_
  refine u_rS1 oX7_isRoom dX7_room_1 ml_X7_48 (c_isRoom (nI a)) (by decide) (Nat.le_of_ble_eq_true rfl) (Nat.le_refl _) (Nat.le_refl _) ?_
  refine v_if_neB (tgt := 9) dX7_room_4 (by decide) (fun b4 => ?_) (fun b4 => ?_)
  ·
    refine v_iload_n dX7_room_9 rfl ?_
    refine v_tableIn (tgt := 110) (off := 100) dX7_room_10 (by decide) (by decide) (by decide) (by decide) ?_
    refine v_aload_n dX7_room_110 rfl ?_
    refine v_get 2 dX7_room_111 FTX7 (by decide) rfl fl_X7_26 x1 rfl ?_
    refine v_iload_n dX7_room_114 rfl ?_
    refine u_rV1 oX4_longestIn dX7_room_115 ml_X7_226 (c_longestIn x4 a ha) s1 (by decide) (Nat.le_of_ble_eq_true rfl) (Nat.le_refl _) (Nat.le_refl _) ?_
    refine v_iret dX7_room_118 rfl (Nat.le_refl _) (Nat.le_refl _) ?_
    exact ⟨by unfold roomI; rw [if_pos hga, if_pos (by decide), nt_nI (n := a) (by omega), nt_nI (n := 6) (by omega)]; try rfl, rfl, rfl⟩
  ·
    exact absurd hga (by rw [b4]; decide)
theorem k_room {w : Wd} {B ns tn : Nat} {σ tx : Nat → Int32} {k : Bool} (h : CR w B σ ns k tx tn) (x z : Int32) : Rd mX7_room 6 [.ref B, .int x, .int z] w (some (.int (roomI σ x z))) := by
  by_cases hg : inB x 3 = false
  · exact k_room_no h x z hg
  have hx := inB_ub (by omega) (bfalse hg)
  rw [hx.1]
  by_cases h3 : inB z 6 = false
  · exact k_room_out h (nt x) hx.2 z h3
  have hz := inB_ub (by omega) (bfalse h3)
  have hz2 := hz.2
  rw [hz.1]
  rcases Nat.lt_or_ge (nt z) 1 with q | q
  · rw [show nt z = 0 by omega]
    exact k_room0 h (nt x) hx.2
  ·
    rcases Nat.lt_or_ge (nt z) 2 with q | q
    · rw [show nt z = 1 by omega]
      exact k_room1 h (nt x) hx.2
    ·
      rcases Nat.lt_or_ge (nt z) 3 with q | q
      · rw [show nt z = 2 by omega]
        exact k_room2 h (nt x) hx.2
      ·
        rcases Nat.lt_or_ge (nt z) 4 with q | q
        · rw [show nt z = 3 by omega]
          exact k_room3 h (nt x) hx.2
        ·
          rcases Nat.lt_or_ge (nt z) 5 with q | q
          · rw [show nt z = 4 by omega]
            exact k_room4 h (nt x) hx.2
          ·
            rcases Nat.lt_or_ge (nt z) 6 with q | q
            · rw [show nt z = 5 by omega]
              exact k_room5 h (nt x) hx.2
            ·
              rw [show nt z = 6 by omega]
              exact k_room6 h (nt x) hx.2

set_option maxHeartbeats 1000000 in
set_option maxRecDepth 100000 in
theorem k_visitor_no {w : Wd} {B ns tn : Nat} {σ tx : Nat → Int32} {k : Bool} (h : CR w B σ ns k tx tn) (x z : Int32) (hg : inB x 9 = false) : Rd mX7_visitor 6 [.ref B, .int x, .int z] w (some (.int (visitorI σ x z))) := by
  intro sz
  refine Ev.ofV [some (.ref B), some (.int x), some (.int z)] (by decide) (Nat.le_of_ble_eq_true rfl) rfl rfl rfl ?_
  have h00 := h
  obtain ⟨nx, hh, gk, hX, hG⟩ := h00
  have hXb := hX
  obtain ⟨x1, x2, ⟨f0, n0, x3⟩, x4, x5, x6, R0, x7⟩ := hXb
  have hS0 := x4
  obtain ⟨hB, ⟨n, π, κ, hRR⟩, hW, hI, hO⟩ := hS0
  have hBb := hB
  obtain ⟨s1, ⟨li, s2, s2b⟩, ⟨ak, s3, s3b⟩, ⟨ro, s4, s4b⟩, ⟨ac, s5, s5b⟩, ⟨lf, s6, s6b⟩, s7⟩ := hBb
  have hRb := hRR
  obtain ⟨⟨F, r1, r2, r3⟩, hK, hP, hS, hR⟩ := hRb
  have x5b := x5
  obtain ⟨⟨hf, v1, v2, v3⟩, hns, hnx, v4⟩ := x5b
  refine v_iload_n dX7_visitor_0 rfl ?_
  refine u_rS1 oX7_isVisitor dX7_visitor_1 ml_X7_128 (c_isVisitor x) (by decide) (Nat.le_of_ble_eq_true rfl) (Nat.le_refl _) (Nat.le_refl _) ?_
  refine v_if_neB (tgt := 9) dX7_visitor_4 (by decide) (fun b4 => ?_) (fun b4 => ?_)
  ·
    exact absurd hg (by rw [b4]; decide)
  ·
    refine v_iconst (v := -1) dX7_visitor_7 (by decide) ?_
    refine v_iret dX7_visitor_8 rfl (Nat.le_refl _) (Nat.le_refl _) ?_
    exact ⟨by unfold visitorI; rw [if_neg (by rw [hg]; decide)], rfl, rfl⟩
set_option maxHeartbeats 1000000 in
set_option maxRecDepth 100000 in
theorem k_visitor_out {w : Wd} {B ns tn : Nat} {σ tx : Nat → Int32} {k : Bool} (h : CR w B σ ns k tx tn) (a : Nat) (ha : a < 10) (z : Int32) (hz : inB z 3 = false) : Rd mX7_visitor 6 [.ref B, .int (nI a), .int z] w (some (.int (visitorI σ (nI a) z))) := by
  intro sz
  refine Ev.ofV [some (.ref B), some (.int (nI a)), some (.int z)] (by decide) (Nat.le_of_ble_eq_true rfl) rfl rfl rfl ?_
  have h00 := h
  obtain ⟨nx, hh, gk, hX, hG⟩ := h00
  have hXb := hX
  obtain ⟨x1, x2, ⟨f0, n0, x3⟩, x4, x5, x6, R0, x7⟩ := hXb
  have hS0 := x4
  obtain ⟨hB, ⟨n, π, κ, hRR⟩, hW, hI, hO⟩ := hS0
  have hBb := hB
  obtain ⟨s1, ⟨li, s2, s2b⟩, ⟨ak, s3, s3b⟩, ⟨ro, s4, s4b⟩, ⟨ac, s5, s5b⟩, ⟨lf, s6, s6b⟩, s7⟩ := hBb
  have hRb := hRR
  obtain ⟨⟨F, r1, r2, r3⟩, hK, hP, hS, hR⟩ := hRb
  have x5b := x5
  obtain ⟨⟨hf, v1, v2, v3⟩, hns, hnx, v4⟩ := x5b
  have hga : inB (nI a) 9 = true := by rw [inB_nI (by omega) (by omega)]; simp; omega
  refine v_iload_n dX7_visitor_0 rfl ?_
  refine u_rS1 oX7_isVisitor dX7_visitor_1 ml_X7_128 (c_isVisitor (nI a)) (by decide) (Nat.le_of_ble_eq_true rfl) (Nat.le_refl _) (Nat.le_refl _) ?_
  refine v_if_neB (tgt := 9) dX7_visitor_4 (by decide) (fun b4 => ?_) (fun b4 => ?_)
  ·
    refine v_iload_n dX7_visitor_9 rfl ?_
    refine v_tableOut (tgt := 83) dX7_visitor_10 (inB_out (b := 3) (by omega) hz) (by decide) ?_
    refine v_bipush (v := -2) dX7_visitor_83 (by decide) ?_
    refine v_iret dX7_visitor_85 rfl (Nat.le_refl _) (Nat.le_refl _) ?_
    exact ⟨by unfold visitorI; rw [if_pos hga, if_neg (by rw [hz]; decide)], rfl, rfl⟩
  ·
    exact absurd hga (by rw [b4]; decide)
theorem rwV_eq {g : Nat → Int32} {n : Nat} {κ : Nat → Nat} (hK : KR g n κ) {a : Nat} (ha : a < 10) : cnt (fun i => g (1808 + 65 * κ i + 2) == nI a) n = rwV g (nI a) := by
  rw [KR_cnt hK (fun k => g (1808 + 65 * k + 2) == nI a)]
  unfold rwV
  refine cnt_congr (fun k hk => ?_)
  rw [decide_eq_false (nI_nlt0 (by omega)), Bool.false_or]
theorem cnt_T : ∀ n, cnt (fun _ => true) n = n
  | 0 => rfl
  | n + 1 => by rw [cnt_S (p := fun _ => true) rfl, cnt_T n]
theorem rwV_m1 {g : Nat → Int32} {n : Nat} {κ : Nat → Nat} (hK : KR g n κ) : rwV g (-1) = n := by
  have h := KR_cnt hK (fun _ => true)
  rw [cnt_T] at h
  rw [h]
  unfold rwV
  refine cnt_congr (fun k hk => ?_)
  rw [decide_eq_true (show (-1 : Int32) < 0 by decide), Bool.true_or]
set_option maxHeartbeats 1000000 in
set_option maxRecDepth 100000 in
theorem k_visitor0 {w : Wd} {B ns tn : Nat} {σ tx : Nat → Int32} {k : Bool} (h : CR w B σ ns k tx tn) (a : Nat) (ha : a < 10) : Rd mX7_visitor 6 [.ref B, .int (nI a), .int (nI 0)] w (some (.int (visitorI σ (nI a) (nI 0)))) := by
  intro sz
  refine Ev.ofV [some (.ref B), some (.int (nI a)), some (.int (nI 0))] (by decide) (Nat.le_of_ble_eq_true rfl) rfl rfl rfl ?_
  have h00 := h
  obtain ⟨nx, hh, gk, hX, hG⟩ := h00
  have hXb := hX
  obtain ⟨x1, x2, ⟨f0, n0, x3⟩, x4, x5, x6, R0, x7⟩ := hXb
  have hS0 := x4
  obtain ⟨hB, ⟨n, π, κ, hRR⟩, hW, hI, hO⟩ := hS0
  have hBb := hB
  obtain ⟨s1, ⟨li, s2, s2b⟩, ⟨ak, s3, s3b⟩, ⟨ro, s4, s4b⟩, ⟨ac, s5, s5b⟩, ⟨lf, s6, s6b⟩, s7⟩ := hBb
  have hRb := hRR
  obtain ⟨⟨F, r1, r2, r3⟩, hK, hP, hS, hR⟩ := hRb
  have x5b := x5
  obtain ⟨⟨hf, v1, v2, v3⟩, hns, hnx, v4⟩ := x5b
  have hga : inB (nI a) 9 = true := by rw [inB_nI (by omega) (by omega)]; simp; omega
  refine v_iload_n dX7_visitor_0 rfl ?_
  refine u_rS1 oX7_isVisitor dX7_visitor_1 ml_X7_128 (c_isVisitor (nI a)) (by decide) (Nat.le_of_ble_eq_true rfl) (Nat.le_refl _) (Nat.le_refl _) ?_
  refine v_if_neB (tgt := 9) dX7_visitor_4 (by decide) (fun b4 => ?_) (fun b4 => ?_)
  ·
    refine v_iload_n dX7_visitor_9 rfl ?_
    refine v_tableIn (tgt := 40) (off := 30) dX7_visitor_10 (by decide) (by decide) (by decide) (by decide) ?_
    refine v_aload_n dX7_visitor_40 rfl ?_
    refine v_get 2 dX7_visitor_41 FTX7 (by decide) rfl fl_X7_26 x1 rfl ?_
    refine v_get 5 dX7_visitor_44 FTX4 (by decide) rfl fl_X7_131 s1 rfl ?_
    refine v_iload_n dX7_visitor_47 rfl ?_
    refine u_rV1 oX3_handedInBy dX7_visitor_48 ml_X7_229 (c_handedInBy hRR (nI a)) r1 (by decide) (Nat.le_of_ble_eq_true rfl) (Nat.le_refl _) (Nat.le_refl _) ?_
    refine v_iret dX7_visitor_51 rfl (Nat.le_refl _) (Nat.le_refl _) ?_
    exact ⟨by unfold visitorI; rw [if_pos hga, if_pos (by decide), nt_nI (n := a) (by omega), nt_nI (n := 0) (by omega)]; show _ = some (Value.int (nI (rwV σ (nI a)))); rw [rwV_eq hK ha]; try rfl, rfl, rfl⟩
  ·
    exact absurd hga (by rw [b4]; decide)
set_option maxHeartbeats 1000000 in
set_option maxRecDepth 100000 in
theorem k_visitor1 {w : Wd} {B ns tn : Nat} {σ tx : Nat → Int32} {k : Bool} (h : CR w B σ ns k tx tn) (a : Nat) (ha : a < 10) : Rd mX7_visitor 6 [.ref B, .int (nI a), .int (nI 1)] w (some (.int (visitorI σ (nI a) (nI 1)))) := by
  intro sz
  refine Ev.ofV [some (.ref B), some (.int (nI a)), some (.int (nI 1))] (by decide) (Nat.le_of_ble_eq_true rfl) rfl rfl rfl ?_
  have h00 := h
  obtain ⟨nx, hh, gk, hX, hG⟩ := h00
  have hXb := hX
  obtain ⟨x1, x2, ⟨f0, n0, x3⟩, x4, x5, x6, R0, x7⟩ := hXb
  have hS0 := x4
  obtain ⟨hB, ⟨n, π, κ, hRR⟩, hW, hI, hO⟩ := hS0
  have hBb := hB
  obtain ⟨s1, ⟨li, s2, s2b⟩, ⟨ak, s3, s3b⟩, ⟨ro, s4, s4b⟩, ⟨ac, s5, s5b⟩, ⟨lf, s6, s6b⟩, s7⟩ := hBb
  have hRb := hRR
  obtain ⟨⟨F, r1, r2, r3⟩, hK, hP, hS, hR⟩ := hRb
  have x5b := x5
  obtain ⟨⟨hf, v1, v2, v3⟩, hns, hnx, v4⟩ := x5b
  have hga : inB (nI a) 9 = true := by rw [inB_nI (by omega) (by omega)]; simp; omega
  refine v_iload_n dX7_visitor_0 rfl ?_
  refine u_rS1 oX7_isVisitor dX7_visitor_1 ml_X7_128 (c_isVisitor (nI a)) (by decide) (Nat.le_of_ble_eq_true rfl) (Nat.le_refl _) (Nat.le_refl _) ?_
  refine v_if_neB (tgt := 9) dX7_visitor_4 (by decide) (fun b4 => ?_) (fun b4 => ?_)
  ·
    refine v_iload_n dX7_visitor_9 rfl ?_
    refine v_tableIn (tgt := 52) (off := 42) dX7_visitor_10 (by decide) (by decide) (by decide) (by decide) ?_
    refine v_aload_n dX7_visitor_52 rfl ?_
    refine v_get 2 dX7_visitor_53 FTX7 (by decide) rfl fl_X7_26 x1 rfl ?_
    refine v_get 3 dX7_visitor_56 FTX4 (by decide) rfl fl_X7_232 s1 rfl ?_
    refine v_iload_n dX7_visitor_59 rfl ?_
    refine v_ialdE _ dX7_visitor_60 s5 rfl (by omega) (by decide) (s5b a ha) ?_
    refine v_iret dX7_visitor_61 rfl (Nat.le_refl _) (Nat.le_refl _) ?_
    exact ⟨by unfold visitorI; rw [if_pos hga, if_pos (by decide), nt_nI (n := a) (by omega), nt_nI (n := 1) (by omega)]; try rfl, rfl, rfl⟩
  ·
    exact absurd hga (by rw [b4]; decide)
set_option maxHeartbeats 1000000 in
set_option maxRecDepth 100000 in
theorem k_visitor2 {w : Wd} {B ns tn : Nat} {σ tx : Nat → Int32} {k : Bool} (h : CR w B σ ns k tx tn) (a : Nat) (ha : a < 10) : Rd mX7_visitor 6 [.ref B, .int (nI a), .int (nI 2)] w (some (.int (visitorI σ (nI a) (nI 2)))) := by
  intro sz
  refine Ev.ofV [some (.ref B), some (.int (nI a)), some (.int (nI 2))] (by decide) (Nat.le_of_ble_eq_true rfl) rfl rfl rfl ?_
  have h00 := h
  obtain ⟨nx, hh, gk, hX, hG⟩ := h00
  have hXb := hX
  obtain ⟨x1, x2, ⟨f0, n0, x3⟩, x4, x5, x6, R0, x7⟩ := hXb
  have hS0 := x4
  obtain ⟨hB, ⟨n, π, κ, hRR⟩, hW, hI, hO⟩ := hS0
  have hBb := hB
  obtain ⟨s1, ⟨li, s2, s2b⟩, ⟨ak, s3, s3b⟩, ⟨ro, s4, s4b⟩, ⟨ac, s5, s5b⟩, ⟨lf, s6, s6b⟩, s7⟩ := hBb
  have hRb := hRR
  obtain ⟨⟨F, r1, r2, r3⟩, hK, hP, hS, hR⟩ := hRb
  have x5b := x5
  obtain ⟨⟨hf, v1, v2, v3⟩, hns, hnx, v4⟩ := x5b
  have hga : inB (nI a) 9 = true := by rw [inB_nI (by omega) (by omega)]; simp; omega
  refine v_iload_n dX7_visitor_0 rfl ?_
  refine u_rS1 oX7_isVisitor dX7_visitor_1 ml_X7_128 (c_isVisitor (nI a)) (by decide) (Nat.le_of_ble_eq_true rfl) (Nat.le_refl _) (Nat.le_refl _) ?_
  refine v_if_neB (tgt := 9) dX7_visitor_4 (by decide) (fun b4 => ?_) (fun b4 => ?_)
  ·
    refine v_iload_n dX7_visitor_9 rfl ?_
    refine v_tableIn (tgt := 62) (off := 52) dX7_visitor_10 (by decide) (by decide) (by decide) (by decide) ?_
    refine v_aload_n dX7_visitor_62 rfl ?_
    refine v_get 2 dX7_visitor_63 FTX7 (by decide) rfl fl_X7_26 x1 rfl ?_
    refine v_get 5 dX7_visitor_66 FTX4 (by decide) rfl fl_X7_131 s1 rfl ?_
    refine v_iload_n dX7_visitor_69 rfl ?_
    refine u_rV1 oX3_votesOf dX7_visitor_70 ml_X7_235 (c_votesOf3 hRR a ha) r1 (by decide) (Nat.le_of_ble_eq_true rfl) (Nat.le_refl _) (Nat.le_refl _) ?_
    refine v_iret dX7_visitor_73 rfl (Nat.le_refl _) (Nat.le_refl _) ?_
    exact ⟨by unfold visitorI; rw [if_pos hga, if_pos (by decide), nt_nI (n := a) (by omega), nt_nI (n := 2) (by omega)]; show _ = some (Value.int (nI (vo σ a))); rw [vo_eq hW hI hK ha]; try rfl, rfl, rfl⟩
  ·
    exact absurd hga (by rw [b4]; decide)
set_option maxHeartbeats 1000000 in
set_option maxRecDepth 100000 in
theorem k_visitor3 {w : Wd} {B ns tn : Nat} {σ tx : Nat → Int32} {k : Bool} (h : CR w B σ ns k tx tn) (a : Nat) (ha : a < 10) : Rd mX7_visitor 6 [.ref B, .int (nI a), .int (nI 3)] w (some (.int (visitorI σ (nI a) (nI 3)))) := by
  intro sz
  refine Ev.ofV [some (.ref B), some (.int (nI a)), some (.int (nI 3))] (by decide) (Nat.le_of_ble_eq_true rfl) rfl rfl rfl ?_
  have h00 := h
  obtain ⟨nx, hh, gk, hX, hG⟩ := h00
  have hXb := hX
  obtain ⟨x1, x2, ⟨f0, n0, x3⟩, x4, x5, x6, R0, x7⟩ := hXb
  have hS0 := x4
  obtain ⟨hB, ⟨n, π, κ, hRR⟩, hW, hI, hO⟩ := hS0
  have hBb := hB
  obtain ⟨s1, ⟨li, s2, s2b⟩, ⟨ak, s3, s3b⟩, ⟨ro, s4, s4b⟩, ⟨ac, s5, s5b⟩, ⟨lf, s6, s6b⟩, s7⟩ := hBb
  have hRb := hRR
  obtain ⟨⟨F, r1, r2, r3⟩, hK, hP, hS, hR⟩ := hRb
  have x5b := x5
  obtain ⟨⟨hf, v1, v2, v3⟩, hns, hnx, v4⟩ := x5b
  have hga : inB (nI a) 9 = true := by rw [inB_nI (by omega) (by omega)]; simp; omega
  refine v_iload_n dX7_visitor_0 rfl ?_
  refine u_rS1 oX7_isVisitor dX7_visitor_1 ml_X7_128 (c_isVisitor (nI a)) (by decide) (Nat.le_of_ble_eq_true rfl) (Nat.le_refl _) (Nat.le_refl _) ?_
  refine v_if_neB (tgt := 9) dX7_visitor_4 (by decide) (fun b4 => ?_) (fun b4 => ?_)
  ·
    refine v_iload_n dX7_visitor_9 rfl ?_
    refine v_tableIn (tgt := 74) (off := 64) dX7_visitor_10 (by decide) (by decide) (by decide) (by decide) ?_
    refine v_aload_n dX7_visitor_74 rfl ?_
    refine v_get 2 dX7_visitor_75 FTX7 (by decide) rfl fl_X7_26 x1 rfl ?_
    refine v_iload_n dX7_visitor_78 rfl ?_
    refine u_rV1 oX4_labelsBy dX7_visitor_79 ml_X7_238 (c_labelsBy x4 (nI a) (nI_0le (by omega))) s1 (by decide) (Nat.le_of_ble_eq_true rfl) (Nat.le_refl _) (Nat.le_refl _) ?_
    refine v_iret dX7_visitor_82 rfl (Nat.le_refl _) (Nat.le_refl _) ?_
    exact ⟨by unfold visitorI; rw [if_pos hga, if_pos (by decide), nt_nI (n := a) (by omega), nt_nI (n := 3) (by omega)]; try rfl, rfl, rfl⟩
  ·
    exact absurd hga (by rw [b4]; decide)
theorem k_visitor {w : Wd} {B ns tn : Nat} {σ tx : Nat → Int32} {k : Bool} (h : CR w B σ ns k tx tn) (x z : Int32) : Rd mX7_visitor 6 [.ref B, .int x, .int z] w (some (.int (visitorI σ x z))) := by
  by_cases hg : inB x 9 = false
  · exact k_visitor_no h x z hg
  have hx := inB_ub (by omega) (bfalse hg)
  rw [hx.1]
  by_cases h3 : inB z 3 = false
  · exact k_visitor_out h (nt x) hx.2 z h3
  have hz := inB_ub (by omega) (bfalse h3)
  have hz2 := hz.2
  rw [hz.1]
  rcases Nat.lt_or_ge (nt z) 1 with q | q
  · rw [show nt z = 0 by omega]
    exact k_visitor0 h (nt x) hx.2
  ·
    rcases Nat.lt_or_ge (nt z) 2 with q | q
    · rw [show nt z = 1 by omega]
      exact k_visitor1 h (nt x) hx.2
    ·
      rcases Nat.lt_or_ge (nt z) 3 with q | q
      · rw [show nt z = 2 by omega]
        exact k_visitor2 h (nt x) hx.2
      ·
        rw [show nt z = 3 by omega]
        exact k_visitor3 h (nt x) hx.2

set_option maxHeartbeats 1000000 in
set_option maxRecDepth 100000 in
theorem k_count_out {w : Wd} {B ns tn : Nat} {σ tx : Nat → Int32} {k : Bool} (h : CR w B σ ns k tx tn) (z : Int32) (hz : inB z 11 = false) : Rd mX7_count 6 [.ref B, .int z] w (some (.int (countI σ ns tn z))) := by
  intro sz
  refine Ev.ofV [some (.ref B), some (.int z)] (by decide) (Nat.le_of_ble_eq_true rfl) rfl rfl rfl ?_
  have h00 := h
  obtain ⟨nx, hh, gk, hX, hG⟩ := h00
  have hXb := hX
  obtain ⟨x1, x2, ⟨f0, n0, x3⟩, x4, x5, x6, R0, x7⟩ := hXb
  have hS0 := x4
  obtain ⟨hB, ⟨n, π, κ, hRR⟩, hW, hI, hO⟩ := hS0
  have hBb := hB
  obtain ⟨s1, ⟨li, s2, s2b⟩, ⟨ak, s3, s3b⟩, ⟨ro, s4, s4b⟩, ⟨ac, s5, s5b⟩, ⟨lf, s6, s6b⟩, s7⟩ := hBb
  have hRb := hRR
  obtain ⟨⟨F, r1, r2, r3⟩, hK, hP, hS, hR⟩ := hRb
  have x5b := x5
  obtain ⟨⟨hf, v1, v2, v3⟩, hns, hnx, v4⟩ := x5b
  refine v_iload_n dX7_count_0 rfl ?_
  refine v_tableOut (tgt := 169) dX7_count_1 (inB_out (b := 11) (by omega) hz) (by decide) ?_
  refine v_bipush (v := -2) dX7_count_169 (by decide) ?_
  refine v_iret dX7_count_171 rfl (Nat.le_refl _) (Nat.le_refl _) ?_
  exact ⟨by unfold countI; rw [if_neg (by rw [hz]; decide)], rfl, rfl⟩
set_option maxHeartbeats 1000000 in
set_option maxRecDepth 100000 in
theorem k_count0 {w : Wd} {B ns tn : Nat} {σ tx : Nat → Int32} {k : Bool} (h : CR w B σ ns k tx tn) : Rd mX7_count 6 [.ref B, .int (nI 0)] w (some (.int (countI σ ns tn (nI 0)))) := by
  intro sz
  refine Ev.ofV [some (.ref B), some (.int (nI 0))] (by decide) (Nat.le_of_ble_eq_true rfl) rfl rfl rfl ?_
  have h00 := h
  obtain ⟨nx, hh, gk, hX, hG⟩ := h00
  have hXb := hX
  obtain ⟨x1, x2, ⟨f0, n0, x3⟩, x4, x5, x6, R0, x7⟩ := hXb
  have hS0 := x4
  obtain ⟨hB, ⟨n, π, κ, hRR⟩, hW, hI, hO⟩ := hS0
  have hBb := hB
  obtain ⟨s1, ⟨li, s2, s2b⟩, ⟨ak, s3, s3b⟩, ⟨ro, s4, s4b⟩, ⟨ac, s5, s5b⟩, ⟨lf, s6, s6b⟩, s7⟩ := hBb
  have hRb := hRR
  obtain ⟨⟨F, r1, r2, r3⟩, hK, hP, hS, hR⟩ := hRb
  have x5b := x5
  obtain ⟨⟨hf, v1, v2, v3⟩, hns, hnx, v4⟩ := x5b
  refine v_iload_n dX7_count_0 rfl ?_
  refine v_tableIn (tgt := 64) (off := 63) dX7_count_1 (by decide) (by decide) (by decide) (by decide) ?_
  refine v_aload_n dX7_count_64 rfl ?_
  refine v_get 2 dX7_count_65 FTX7 (by decide) rfl fl_X7_26 x1 rfl ?_
  refine u_rV0 oX4_allLabels dX7_count_68 ml_X7_187 (c_allLabels x4) s1 (by decide) (Nat.le_of_ble_eq_true rfl) (Nat.le_refl _) (Nat.le_refl _) ?_
  refine v_iret dX7_count_71 rfl (Nat.le_refl _) (Nat.le_refl _) ?_
  exact ⟨by unfold countI; rw [if_pos (by decide), nt_nI (n := 0) (by omega)]; try rfl, rfl, rfl⟩
set_option maxHeartbeats 1000000 in
set_option maxRecDepth 100000 in
theorem k_count1 {w : Wd} {B ns tn : Nat} {σ tx : Nat → Int32} {k : Bool} (h : CR w B σ ns k tx tn) : Rd mX7_count 6 [.ref B, .int (nI 1)] w (some (.int (countI σ ns tn (nI 1)))) := by
  intro sz
  refine Ev.ofV [some (.ref B), some (.int (nI 1))] (by decide) (Nat.le_of_ble_eq_true rfl) rfl rfl rfl ?_
  have h00 := h
  obtain ⟨nx, hh, gk, hX, hG⟩ := h00
  have hXb := hX
  obtain ⟨x1, x2, ⟨f0, n0, x3⟩, x4, x5, x6, R0, x7⟩ := hXb
  have hS0 := x4
  obtain ⟨hB, ⟨n, π, κ, hRR⟩, hW, hI, hO⟩ := hS0
  have hBb := hB
  obtain ⟨s1, ⟨li, s2, s2b⟩, ⟨ak, s3, s3b⟩, ⟨ro, s4, s4b⟩, ⟨ac, s5, s5b⟩, ⟨lf, s6, s6b⟩, s7⟩ := hBb
  have hRb := hRR
  obtain ⟨⟨F, r1, r2, r3⟩, hK, hP, hS, hR⟩ := hRb
  have x5b := x5
  obtain ⟨⟨hf, v1, v2, v3⟩, hns, hnx, v4⟩ := x5b
  refine v_iload_n dX7_count_0 rfl ?_
  refine v_tableIn (tgt := 72) (off := 71) dX7_count_1 (by decide) (by decide) (by decide) (by decide) ?_
  refine v_aload_n dX7_count_72 rfl ?_
  refine v_get 2 dX7_count_73 FTX7 (by decide) rfl fl_X7_26 x1 rfl ?_
  refine v_get 5 dX7_count_76 FTX4 (by decide) rfl fl_X7_131 s1 rfl ?_
  refine v_get 1 dX7_count_79 FTX3 (by decide) rfl fl_X7_248 r1 rfl ?_
  refine v_iret dX7_count_82 rfl (Nat.le_refl _) (Nat.le_refl _) ?_
  exact ⟨by unfold countI; rw [if_pos (by decide), nt_nI (n := 1) (by omega)]; show _ = some (Value.int (nI (rwV σ (-1)))); rw [rwV_m1 hK]; try rfl, rfl, rfl⟩
set_option maxHeartbeats 1000000 in
set_option maxRecDepth 100000 in
theorem k_count2 {w : Wd} {B ns tn : Nat} {σ tx : Nat → Int32} {k : Bool} (h : CR w B σ ns k tx tn) : Rd mX7_count 6 [.ref B, .int (nI 2)] w (some (.int (countI σ ns tn (nI 2)))) := by
  intro sz
  refine Ev.ofV [some (.ref B), some (.int (nI 2))] (by decide) (Nat.le_of_ble_eq_true rfl) rfl rfl rfl ?_
  have h00 := h
  obtain ⟨nx, hh, gk, hX, hG⟩ := h00
  have hXb := hX
  obtain ⟨x1, x2, ⟨f0, n0, x3⟩, x4, x5, x6, R0, x7⟩ := hXb
  have hS0 := x4
  obtain ⟨hB, ⟨n, π, κ, hRR⟩, hW, hI, hO⟩ := hS0
  have hBb := hB
  obtain ⟨s1, ⟨li, s2, s2b⟩, ⟨ak, s3, s3b⟩, ⟨ro, s4, s4b⟩, ⟨ac, s5, s5b⟩, ⟨lf, s6, s6b⟩, s7⟩ := hBb
  have hRb := hRR
  obtain ⟨⟨F, r1, r2, r3⟩, hK, hP, hS, hR⟩ := hRb
  have x5b := x5
  obtain ⟨⟨hf, v1, v2, v3⟩, hns, hnx, v4⟩ := x5b
  refine v_iload_n dX7_count_0 rfl ?_
  refine v_tableIn (tgt := 83) (off := 82) dX7_count_1 (by decide) (by decide) (by decide) (by decide) ?_
  refine v_aload_n dX7_count_83 rfl ?_
  refine v_get 2 dX7_count_84 FTX7 (by decide) rfl fl_X7_26 x1 rfl ?_
  refine v_get 5 dX7_count_87 FTX4 (by decide) rfl fl_X7_131 s1 rfl ?_
  refine v_get 2 dX7_count_90 FTX3 (by decide) rfl fl_X7_249 r1 rfl ?_
  refine v_iret dX7_count_93 rfl (Nat.le_refl _) (Nat.le_refl _) ?_
  exact ⟨by unfold countI; rw [if_pos (by decide), nt_nI (n := 2) (by omega)]; try rfl, rfl, rfl⟩
set_option maxHeartbeats 1000000 in
set_option maxRecDepth 100000 in
theorem k_count3 {w : Wd} {B ns tn : Nat} {σ tx : Nat → Int32} {k : Bool} (h : CR w B σ ns k tx tn) : Rd mX7_count 6 [.ref B, .int (nI 3)] w (some (.int (countI σ ns tn (nI 3)))) := by
  intro sz
  refine Ev.ofV [some (.ref B), some (.int (nI 3))] (by decide) (Nat.le_of_ble_eq_true rfl) rfl rfl rfl ?_
  have h00 := h
  obtain ⟨nx, hh, gk, hX, hG⟩ := h00
  have hXb := hX
  obtain ⟨x1, x2, ⟨f0, n0, x3⟩, x4, x5, x6, R0, x7⟩ := hXb
  have hS0 := x4
  obtain ⟨hB, ⟨n, π, κ, hRR⟩, hW, hI, hO⟩ := hS0
  have hBb := hB
  obtain ⟨s1, ⟨li, s2, s2b⟩, ⟨ak, s3, s3b⟩, ⟨ro, s4, s4b⟩, ⟨ac, s5, s5b⟩, ⟨lf, s6, s6b⟩, s7⟩ := hBb
  have hRb := hRR
  obtain ⟨⟨F, r1, r2, r3⟩, hK, hP, hS, hR⟩ := hRb
  have x5b := x5
  obtain ⟨⟨hf, v1, v2, v3⟩, hns, hnx, v4⟩ := x5b
  refine v_iload_n dX7_count_0 rfl ?_
  refine v_tableIn (tgt := 94) (off := 93) dX7_count_1 (by decide) (by decide) (by decide) (by decide) ?_
  refine v_aload_n dX7_count_94 rfl ?_
  refine v_get 2 dX7_count_95 FTX7 (by decide) rfl fl_X7_26 x1 rfl ?_
  refine v_get 5 dX7_count_98 FTX4 (by decide) rfl fl_X7_131 s1 rfl ?_
  refine u_rV0 oX3_allVotes dX7_count_101 ml_X7_252 (c_allVotes3 hRR hW hI) r1 (by decide) (Nat.le_of_ble_eq_true rfl) (Nat.le_refl _) (Nat.le_refl _) ?_
  refine v_iret dX7_count_104 rfl (Nat.le_refl _) (Nat.le_refl _) ?_
  exact ⟨by unfold countI; rw [if_pos (by decide), nt_nI (n := 3) (by omega)]; try rfl, rfl, rfl⟩
set_option maxHeartbeats 1000000 in
set_option maxRecDepth 100000 in
theorem k_count4 {w : Wd} {B ns tn : Nat} {σ tx : Nat → Int32} {k : Bool} (h : CR w B σ ns k tx tn) : Rd mX7_count 6 [.ref B, .int (nI 4)] w (some (.int (countI σ ns tn (nI 4)))) := by
  intro sz
  refine Ev.ofV [some (.ref B), some (.int (nI 4))] (by decide) (Nat.le_of_ble_eq_true rfl) rfl rfl rfl ?_
  have h00 := h
  obtain ⟨nx, hh, gk, hX, hG⟩ := h00
  have hXb := hX
  obtain ⟨x1, x2, ⟨f0, n0, x3⟩, x4, x5, x6, R0, x7⟩ := hXb
  have hS0 := x4
  obtain ⟨hB, ⟨n, π, κ, hRR⟩, hW, hI, hO⟩ := hS0
  have hBb := hB
  obtain ⟨s1, ⟨li, s2, s2b⟩, ⟨ak, s3, s3b⟩, ⟨ro, s4, s4b⟩, ⟨ac, s5, s5b⟩, ⟨lf, s6, s6b⟩, s7⟩ := hBb
  have hRb := hRR
  obtain ⟨⟨F, r1, r2, r3⟩, hK, hP, hS, hR⟩ := hRb
  have x5b := x5
  obtain ⟨⟨hf, v1, v2, v3⟩, hns, hnx, v4⟩ := x5b
  refine v_iload_n dX7_count_0 rfl ?_
  refine v_tableIn (tgt := 105) (off := 104) dX7_count_1 (by decide) (by decide) (by decide) (by decide) ?_
  refine v_aload_n dX7_count_105 rfl ?_
  refine v_get 2 dX7_count_106 FTX7 (by decide) rfl fl_X7_26 x1 rfl ?_
  refine v_get 7 dX7_count_109 FTX4 (by decide) rfl fl_X7_107 s1 rfl ?_
  refine v_iret dX7_count_112 rfl (Nat.le_refl _) (Nat.le_refl _) ?_
  exact ⟨by unfold countI; rw [if_pos (by decide), nt_nI (n := 4) (by omega)]; try rfl, rfl, rfl⟩
set_option maxHeartbeats 1000000 in
set_option maxRecDepth 100000 in
theorem k_count5 {w : Wd} {B ns tn : Nat} {σ tx : Nat → Int32} {k : Bool} (h : CR w B σ ns k tx tn) : Rd mX7_count 6 [.ref B, .int (nI 5)] w (some (.int (countI σ ns tn (nI 5)))) := by
  intro sz
  refine Ev.ofV [some (.ref B), some (.int (nI 5))] (by decide) (Nat.le_of_ble_eq_true rfl) rfl rfl rfl ?_
  have h00 := h
  obtain ⟨nx, hh, gk, hX, hG⟩ := h00
  have hXb := hX
  obtain ⟨x1, x2, ⟨f0, n0, x3⟩, x4, x5, x6, R0, x7⟩ := hXb
  have hS0 := x4
  obtain ⟨hB, ⟨n, π, κ, hRR⟩, hW, hI, hO⟩ := hS0
  have hBb := hB
  obtain ⟨s1, ⟨li, s2, s2b⟩, ⟨ak, s3, s3b⟩, ⟨ro, s4, s4b⟩, ⟨ac, s5, s5b⟩, ⟨lf, s6, s6b⟩, s7⟩ := hBb
  have hRb := hRR
  obtain ⟨⟨F, r1, r2, r3⟩, hK, hP, hS, hR⟩ := hRb
  have x5b := x5
  obtain ⟨⟨hf, v1, v2, v3⟩, hns, hnx, v4⟩ := x5b
  refine v_iload_n dX7_count_0 rfl ?_
  refine v_tableIn (tgt := 113) (off := 112) dX7_count_1 (by decide) (by decide) (by decide) (by decide) ?_
  refine v_aload_n dX7_count_113 rfl ?_
  refine v_get 2 dX7_count_114 FTX7 (by decide) rfl fl_X7_26 x1 rfl ?_
  refine v_get 6 dX7_count_117 FTX4 (by decide) rfl fl_X7_125 s1 rfl ?_
  refine v_iret dX7_count_120 rfl (Nat.le_refl _) (Nat.le_refl _) ?_
  exact ⟨by unfold countI; rw [if_pos (by decide), nt_nI (n := 5) (by omega)]; try rfl, rfl, rfl⟩
set_option maxHeartbeats 1000000 in
set_option maxRecDepth 100000 in
theorem k_count6 {w : Wd} {B ns tn : Nat} {σ tx : Nat → Int32} {k : Bool} (h : CR w B σ ns k tx tn) : Rd mX7_count 6 [.ref B, .int (nI 6)] w (some (.int (countI σ ns tn (nI 6)))) := by
  intro sz
  refine Ev.ofV [some (.ref B), some (.int (nI 6))] (by decide) (Nat.le_of_ble_eq_true rfl) rfl rfl rfl ?_
  have h00 := h
  obtain ⟨nx, hh, gk, hX, hG⟩ := h00
  have hXb := hX
  obtain ⟨x1, x2, ⟨f0, n0, x3⟩, x4, x5, x6, R0, x7⟩ := hXb
  have hS0 := x4
  obtain ⟨hB, ⟨n, π, κ, hRR⟩, hW, hI, hO⟩ := hS0
  have hBb := hB
  obtain ⟨s1, ⟨li, s2, s2b⟩, ⟨ak, s3, s3b⟩, ⟨ro, s4, s4b⟩, ⟨ac, s5, s5b⟩, ⟨lf, s6, s6b⟩, s7⟩ := hBb
  have hRb := hRR
  obtain ⟨⟨F, r1, r2, r3⟩, hK, hP, hS, hR⟩ := hRb
  have x5b := x5
  obtain ⟨⟨hf, v1, v2, v3⟩, hns, hnx, v4⟩ := x5b
  refine v_iload_n dX7_count_0 rfl ?_
  refine v_tableIn (tgt := 121) (off := 120) dX7_count_1 (by decide) (by decide) (by decide) (by decide) ?_
  refine v_aload_n dX7_count_121 rfl ?_
  refine v_get 2 dX7_count_122 FTX7 (by decide) rfl fl_X7_26 x1 rfl ?_
  refine u_rV0 oX4_allMissing dX7_count_125 ml_X7_255 (c_allMissing x4) s1 (by decide) (Nat.le_of_ble_eq_true rfl) (Nat.le_refl _) (Nat.le_refl _) ?_
  refine v_iret dX7_count_128 rfl (Nat.le_refl _) (Nat.le_refl _) ?_
  exact ⟨by unfold countI; rw [if_pos (by decide), nt_nI (n := 6) (by omega)]; try rfl, rfl, rfl⟩
set_option maxHeartbeats 1000000 in
set_option maxRecDepth 100000 in
theorem k_count7 {w : Wd} {B ns tn : Nat} {σ tx : Nat → Int32} {k : Bool} (h : CR w B σ ns k tx tn) : Rd mX7_count 6 [.ref B, .int (nI 7)] w (some (.int (countI σ ns tn (nI 7)))) := by
  intro sz
  refine Ev.ofV [some (.ref B), some (.int (nI 7))] (by decide) (Nat.le_of_ble_eq_true rfl) rfl rfl rfl ?_
  have h00 := h
  obtain ⟨nx, hh, gk, hX, hG⟩ := h00
  have hXb := hX
  obtain ⟨x1, x2, ⟨f0, n0, x3⟩, x4, x5, x6, R0, x7⟩ := hXb
  have hS0 := x4
  obtain ⟨hB, ⟨n, π, κ, hRR⟩, hW, hI, hO⟩ := hS0
  have hBb := hB
  obtain ⟨s1, ⟨li, s2, s2b⟩, ⟨ak, s3, s3b⟩, ⟨ro, s4, s4b⟩, ⟨ac, s5, s5b⟩, ⟨lf, s6, s6b⟩, s7⟩ := hBb
  have hRb := hRR
  obtain ⟨⟨F, r1, r2, r3⟩, hK, hP, hS, hR⟩ := hRb
  have x5b := x5
  obtain ⟨⟨hf, v1, v2, v3⟩, hns, hnx, v4⟩ := x5b
  refine v_iload_n dX7_count_0 rfl ?_
  refine v_tableIn (tgt := 129) (off := 128) dX7_count_1 (by decide) (by decide) (by decide) (by decide) ?_
  refine v_aload_n dX7_count_129 rfl ?_
  refine v_get 2 dX7_count_130 FTX7 (by decide) rfl fl_X7_26 x1 rfl ?_
  refine v_get 8 dX7_count_133 FTX4 (by decide) rfl fl_X7_258 s1 rfl ?_
  refine v_iret dX7_count_136 rfl (Nat.le_refl _) (Nat.le_refl _) ?_
  exact ⟨by unfold countI; rw [if_pos (by decide), nt_nI (n := 7) (by omega)]; try rfl, rfl, rfl⟩
set_option maxHeartbeats 1000000 in
set_option maxRecDepth 100000 in
theorem k_count8 {w : Wd} {B ns tn : Nat} {σ tx : Nat → Int32} {k : Bool} (h : CR w B σ ns k tx tn) : Rd mX7_count 6 [.ref B, .int (nI 8)] w (some (.int (countI σ ns tn (nI 8)))) := by
  intro sz
  refine Ev.ofV [some (.ref B), some (.int (nI 8))] (by decide) (Nat.le_of_ble_eq_true rfl) rfl rfl rfl ?_
  have h00 := h
  obtain ⟨nx, hh, gk, hX, hG⟩ := h00
  have hXb := hX
  obtain ⟨x1, x2, ⟨f0, n0, x3⟩, x4, x5, x6, R0, x7⟩ := hXb
  have hS0 := x4
  obtain ⟨hB, ⟨n, π, κ, hRR⟩, hW, hI, hO⟩ := hS0
  have hBb := hB
  obtain ⟨s1, ⟨li, s2, s2b⟩, ⟨ak, s3, s3b⟩, ⟨ro, s4, s4b⟩, ⟨ac, s5, s5b⟩, ⟨lf, s6, s6b⟩, s7⟩ := hBb
  have hRb := hRR
  obtain ⟨⟨F, r1, r2, r3⟩, hK, hP, hS, hR⟩ := hRb
  have x5b := x5
  obtain ⟨⟨hf, v1, v2, v3⟩, hns, hnx, v4⟩ := x5b
  refine v_iload_n dX7_count_0 rfl ?_
  refine v_tableIn (tgt := 137) (off := 136) dX7_count_1 (by decide) (by decide) (by decide) (by decide) ?_
  refine v_aload_n dX7_count_137 rfl ?_
  refine v_get 2 dX7_count_138 FTX7 (by decide) rfl fl_X7_26 x1 rfl ?_
  refine v_get 9 dX7_count_141 FTX4 (by decide) rfl fl_X7_261 s1 rfl ?_
  refine v_iret dX7_count_144 rfl (Nat.le_refl _) (Nat.le_refl _) ?_
  exact ⟨by unfold countI; rw [if_pos (by decide), nt_nI (n := 8) (by omega)]; try rfl, rfl, rfl⟩
set_option maxHeartbeats 1000000 in
set_option maxRecDepth 100000 in
theorem k_count9 {w : Wd} {B ns tn : Nat} {σ tx : Nat → Int32} {k : Bool} (h : CR w B σ ns k tx tn) : Rd mX7_count 6 [.ref B, .int (nI 9)] w (some (.int (countI σ ns tn (nI 9)))) := by
  intro sz
  refine Ev.ofV [some (.ref B), some (.int (nI 9))] (by decide) (Nat.le_of_ble_eq_true rfl) rfl rfl rfl ?_
  have h00 := h
  obtain ⟨nx, hh, gk, hX, hG⟩ := h00
  have hXb := hX
  obtain ⟨x1, x2, ⟨f0, n0, x3⟩, x4, x5, x6, R0, x7⟩ := hXb
  have hS0 := x4
  obtain ⟨hB, ⟨n, π, κ, hRR⟩, hW, hI, hO⟩ := hS0
  have hBb := hB
  obtain ⟨s1, ⟨li, s2, s2b⟩, ⟨ak, s3, s3b⟩, ⟨ro, s4, s4b⟩, ⟨ac, s5, s5b⟩, ⟨lf, s6, s6b⟩, s7⟩ := hBb
  have hRb := hRR
  obtain ⟨⟨F, r1, r2, r3⟩, hK, hP, hS, hR⟩ := hRb
  have x5b := x5
  obtain ⟨⟨hf, v1, v2, v3⟩, hns, hnx, v4⟩ := x5b
  refine v_iload_n dX7_count_0 rfl ?_
  refine v_tableIn (tgt := 145) (off := 144) dX7_count_1 (by decide) (by decide) (by decide) (by decide) ?_
  refine v_aload_n dX7_count_145 rfl ?_
  refine v_get 2 dX7_count_146 FTX7 (by decide) rfl fl_X7_26 x1 rfl ?_
  refine v_get 10 dX7_count_149 FTX4 (by decide) rfl fl_X7_264 s1 rfl ?_
  refine v_iret dX7_count_152 rfl (Nat.le_refl _) (Nat.le_refl _) ?_
  exact ⟨by unfold countI; rw [if_pos (by decide), nt_nI (n := 9) (by omega)]; try rfl, rfl, rfl⟩
set_option maxHeartbeats 1000000 in
set_option maxRecDepth 100000 in
theorem k_count10 {w : Wd} {B ns tn : Nat} {σ tx : Nat → Int32} {k : Bool} (h : CR w B σ ns k tx tn) : Rd mX7_count 6 [.ref B, .int (nI 10)] w (some (.int (countI σ ns tn (nI 10)))) := by
  intro sz
  refine Ev.ofV [some (.ref B), some (.int (nI 10))] (by decide) (Nat.le_of_ble_eq_true rfl) rfl rfl rfl ?_
  have h00 := h
  obtain ⟨nx, hh, gk, hX, hG⟩ := h00
  have hXb := hX
  obtain ⟨x1, x2, ⟨f0, n0, x3⟩, x4, x5, x6, R0, x7⟩ := hXb
  have hS0 := x4
  obtain ⟨hB, ⟨n, π, κ, hRR⟩, hW, hI, hO⟩ := hS0
  have hBb := hB
  obtain ⟨s1, ⟨li, s2, s2b⟩, ⟨ak, s3, s3b⟩, ⟨ro, s4, s4b⟩, ⟨ac, s5, s5b⟩, ⟨lf, s6, s6b⟩, s7⟩ := hBb
  have hRb := hRR
  obtain ⟨⟨F, r1, r2, r3⟩, hK, hP, hS, hR⟩ := hRb
  have x5b := x5
  obtain ⟨⟨hf, v1, v2, v3⟩, hns, hnx, v4⟩ := x5b
  refine v_iload_n dX7_count_0 rfl ?_
  refine v_tableIn (tgt := 153) (off := 152) dX7_count_1 (by decide) (by decide) (by decide) (by decide) ?_
  refine v_aload_n dX7_count_153 rfl ?_
  refine v_get 3 dX7_count_154 FTX7 (by decide) rfl fl_X7_33 x1 rfl ?_
  refine v_get 1 dX7_count_157 FTX0 (by decide) rfl fl_X7_180 v1 rfl ?_
  refine v_iret dX7_count_160 rfl (Nat.le_refl _) (Nat.le_refl _) ?_
  exact ⟨by unfold countI; rw [if_pos (by decide), nt_nI (n := 10) (by omega)]; try rfl, rfl, rfl⟩
set_option maxHeartbeats 1000000 in
set_option maxRecDepth 100000 in
theorem k_count11 {w : Wd} {B ns tn : Nat} {σ tx : Nat → Int32} {k : Bool} (h : CR w B σ ns k tx tn) : Rd mX7_count 6 [.ref B, .int (nI 11)] w (some (.int (countI σ ns tn (nI 11)))) := by
  intro sz
  refine Ev.ofV [some (.ref B), some (.int (nI 11))] (by decide) (Nat.le_of_ble_eq_true rfl) rfl rfl rfl ?_
  have h00 := h
  obtain ⟨nx, hh, gk, hX, hG⟩ := h00
  have hXb := hX
  obtain ⟨x1, x2, ⟨f0, n0, x3⟩, x4, x5, x6, R0, x7⟩ := hXb
  have hS0 := x4
  obtain ⟨hB, ⟨n, π, κ, hRR⟩, hW, hI, hO⟩ := hS0
  have hBb := hB
  obtain ⟨s1, ⟨li, s2, s2b⟩, ⟨ak, s3, s3b⟩, ⟨ro, s4, s4b⟩, ⟨ac, s5, s5b⟩, ⟨lf, s6, s6b⟩, s7⟩ := hBb
  have hRb := hRR
  obtain ⟨⟨F, r1, r2, r3⟩, hK, hP, hS, hR⟩ := hRb
  have x5b := x5
  obtain ⟨⟨hf, v1, v2, v3⟩, hns, hnx, v4⟩ := x5b
  refine v_iload_n dX7_count_0 rfl ?_
  refine v_tableIn (tgt := 161) (off := 160) dX7_count_1 (by decide) (by decide) (by decide) (by decide) ?_
  refine v_aload_n dX7_count_161 rfl ?_
  refine v_get 0 dX7_count_162 FTX7 (by decide) rfl fl_X7_12 x1 rfl ?_
  refine v_get 1 dX7_count_165 FTX5 (by decide) rfl fl_X7_177 x2.1 rfl ?_
  refine v_iret dX7_count_168 rfl (Nat.le_refl _) (Nat.le_refl _) ?_
  exact ⟨by unfold countI; rw [if_pos (by decide), nt_nI (n := 11) (by omega)]; try rfl, rfl, rfl⟩
theorem k_count {w : Wd} {B ns tn : Nat} {σ tx : Nat → Int32} {k : Bool} (h : CR w B σ ns k tx tn) (z : Int32) : Rd mX7_count 6 [.ref B, .int z] w (some (.int (countI σ ns tn z))) := by
  by_cases h3 : inB z 11 = false
  · exact k_count_out h z h3
  have hz := inB_ub (by omega) (bfalse h3)
  have hz2 := hz.2
  rw [hz.1]
  rcases Nat.lt_or_ge (nt z) 1 with q | q
  · rw [show nt z = 0 by omega]
    exact k_count0 h
  ·
    rcases Nat.lt_or_ge (nt z) 2 with q | q
    · rw [show nt z = 1 by omega]
      exact k_count1 h
    ·
      rcases Nat.lt_or_ge (nt z) 3 with q | q
      · rw [show nt z = 2 by omega]
        exact k_count2 h
      ·
        rcases Nat.lt_or_ge (nt z) 4 with q | q
        · rw [show nt z = 3 by omega]
          exact k_count3 h
        ·
          rcases Nat.lt_or_ge (nt z) 5 with q | q
          · rw [show nt z = 4 by omega]
            exact k_count4 h
          ·
            rcases Nat.lt_or_ge (nt z) 6 with q | q
            · rw [show nt z = 5 by omega]
              exact k_count5 h
            ·
              rcases Nat.lt_or_ge (nt z) 7 with q | q
              · rw [show nt z = 6 by omega]
                exact k_count6 h
              ·
                rcases Nat.lt_or_ge (nt z) 8 with q | q
                · rw [show nt z = 7 by omega]
                  exact k_count7 h
                ·
                  rcases Nat.lt_or_ge (nt z) 9 with q | q
                  · rw [show nt z = 8 by omega]
                    exact k_count8 h
                  ·
                    rcases Nat.lt_or_ge (nt z) 10 with q | q
                    · rw [show nt z = 9 by omega]
                      exact k_count9 h
                    ·
                      rcases Nat.lt_or_ge (nt z) 11 with q | q
                      · rw [show nt z = 10 by omega]
                        exact k_count10 h
                      ·
                        rw [show nt z = 11 by omega]
                        exact k_count11 h

theorem flt_cases (f : Nat → Int32) (n : Nat) : flt f n = -1 ∨ ∃ m, m ≤ n ∧ flt f n = nI m := by
  have := fst_le (fun k => !okc f k) n
  unfold flt
  split
  · exact Or.inr ⟨_, this, rfl⟩
  · split
    · exact Or.inl rfl
    · exact Or.inr ⟨n, Nat.le_refl _, rfl⟩
theorem flt_neg {f : Nat → Int32} {n : Nat} (hn : n < 2147483648) : flt f n < 0 ↔ flt f n = -1 := by
  rcases flt_cases f n with h | ⟨m, hm, h⟩
  · rw [h]
    decide
  · rw [h]
    constructor
    · intro z
      exact absurd z (nI_nlt0 (by omega))
    · intro z
      exact absurd z (nI_ne_neg (by omega))
theorem err_ne {f : Nat → Int32} {n : Nat} (hn : n ≤ 60) (h : ¬ flt f n < 0) : ¬ -100 - flt f n = 0 := by
  rcases flt_cases f n with e | ⟨m, hm, e⟩
  · rw [e] at h
    exact absurd (by decide) h
  · rw [e]
    intro z
    have h1 : nI m = -100 := by
      have h2 : -100 - nI m + nI m = -100 := Int32.sub_add_cancel _ _
      rw [z, Int32.zero_add] at h2
      exact h2
    have h2 := congrArg Int32.toInt h1
    rw [nI_toInt (by omega)] at h2
    have : (-100 : Int32).toInt = -100 := by decide
    omega
theorem CR_ty {w w' : Wd} {B : Nat} {σ : Nat → Int32} {ns tn m : Nat} {k : Bool} {tx f : Nat → Int32} (h : CR w B σ ns k tx tn) (hT : WO w' (B + 3) f m) (hf : fr (B + 3) 3 w w') : CR w' B σ ns k tx tn := by
  obtain ⟨nx, hh, gk, ⟨h1, ⟨a1, a2, a3⟩, -, h4, h5, h6, R, h7⟩, g⟩ := h
  exact ⟨nx, hh, gk, ⟨(hf _ (by omega)).trans h1, ⟨(hf _ (by omega)).trans a1, (hf _ (by omega)).trans a2, a3⟩, ⟨f, m, hT⟩, h4.fr (fun q a b => hf q (by omega)), h5.fr (fun q a b => hf q (by omega)), h6.fr (fun q a b => hf q (by omega)), R, (hf _ (by omega)).trans h7⟩, g⟩
set_option maxHeartbeats 1000000 in
set_option maxRecDepth 100000 in
theorem c_readText {w : Wd} {B ns tn : Nat} {σ tx : Nat → Int32} {k : Bool} (h : CR w B σ ns k tx tn) : Wr mX7_readText 2 [.ref B] w (fun r' w' => (flt tx tn < 0 ∧ r' = some (.int (nI 0)) ∧ okT tx tn ∧ WO w' (B + 3) tx tn ∧ CR w' B σ ns k tx tn ∧ fr (B + 3) 3 w w') ∨ (¬ flt tx tn < 0 ∧ r' = some (.int (-100 - flt tx tn)) ∧ w' = w)) := by
  intro sz
  refine Ev.ofV [some (.ref B), none] (by decide) (Nat.le_of_ble_eq_true rfl) rfl rfl rfl ?_
  have h00 := h
  obtain ⟨nx, hh, gk, hX, hG⟩ := h00
  have hXb := hX
  obtain ⟨x1, x2, ⟨f0, n0, x3⟩, x4, x5, x6, R0, x7⟩ := hXb
  have hS0 := x4
  obtain ⟨hB, ⟨n, π, κ, hRR⟩, hW, hI, hO⟩ := hS0
  have hBb := hB
  obtain ⟨s1, ⟨li, s2, s2b⟩, ⟨ak, s3, s3b⟩, ⟨ro, s4, s4b⟩, ⟨ac, s5, s5b⟩, ⟨lf, s6, s6b⟩, s7⟩ := hBb
  have hRb := hRR
  obtain ⟨⟨F, r1, r2, r3⟩, hK, hP, hS, hR⟩ := hRb
  have x5b := x5
  obtain ⟨⟨hf, v1, v2, v3⟩, hns, hnx, v4⟩ := x5b
  have ht := x2.2.2
  refine v_aload_n dX7_readText_0 rfl ?_
  refine v_get 0 dX7_readText_1 FTX7 (by decide) rfl fl_X7_12 x1 rfl ?_
  refine u_rV0 oX5_fault dX7_readText_4 ml_X7_267 (c_fault5 x2) x2.1 (by decide) (Nat.le_of_ble_eq_true rfl) (Nat.le_refl _) (Nat.le_refl _) ?_
  refine v_istore_n dX7_readText_7 (by decide) rfl ?_
  refine v_iload_n dX7_readText_8 rfl ?_
  refine v_iconst (v := -1) dX7_readText_9 (by decide) ?_
  refine v_icmp_eq (tgt := 18) dX7_readText_10 (by decide) (fun b10 => ?_) (fun b10 => ?_)
  ·
    have hneg : flt tx tn < 0 := (flt_neg (by omega)).mpr b10
    have hok := flt_ok (by omega) hneg
    refine v_aload_n dX7_readText_18 rfl ?_
    refine v_get 1 dX7_readText_19 FTX7 (by decide) rfl fl_X7_19 x1 rfl ?_
    refine v_aload_n dX7_readText_22 rfl ?_
    refine v_get 0 dX7_readText_23 FTX7 (by decide) rfl fl_X7_12 x1 rfl ?_
    refine v_wV1 oX6_readFrom dX7_readText_26 ml_X7_270 (c_readFrom x3 x2 hok (by omega)) x3.at (by decide) (Nat.le_of_ble_eq_true rfl) (Nat.le_refl _) (Nat.le_refl _) (fun r' w1 hq => ?_)
    obtain ⟨rfl, q1, q2⟩ := hq
    refine v_iconst (v := nI 0) dX7_readText_29 (by decide) ?_
    refine v_iret dX7_readText_30 rfl (Nat.le_refl _) (Nat.le_refl _) ?_
    exact ⟨rfl, Or.inl ⟨hneg, rfl, hok, q1, CR_ty h q1 q2, q2⟩⟩
  ·
    refine v_bipush (v := -100) dX7_readText_13 (by decide) ?_
    refine v_iload_n dX7_readText_15 rfl ?_
    refine v_isub dX7_readText_16 ?_
    refine v_iret dX7_readText_17 rfl (Nat.le_refl _) (Nat.le_refl _) ?_
    exact ⟨rfl, Or.inr ⟨fun z => b10 ((flt_neg (by omega)).mp z), rfl, rfl⟩⟩
set_option maxHeartbeats 1000000 in
set_option maxRecDepth 100000 in
theorem c_readTextFor {w : Wd} {B ns tn : Nat} {σ tx : Nat → Int32} {k : Bool} (h : CR w B σ ns k tx tn) (a : Nat) (ha : a < 8) : Wr mX7_readTextFor 3 [.ref B, .int (nI a)] w (fun r' w' => (flt tx tn < 0 ∧ 1 + cnt (bl tx) tn ≤ limW σ a ∧ r' = some (.int (nI 0)) ∧ okT tx tn ∧ WO w' (B + 3) tx tn ∧ CR w' B σ ns k tx tn ∧ fr (B + 3) 3 w w') ∨ (flt tx tn < 0 ∧ ¬ 1 + cnt (bl tx) tn ≤ limW σ a ∧ r' = some (.int (-6)) ∧ CR w' B σ ns k tx tn ∧ fr (B + 3) 3 w w') ∨ (¬ flt tx tn < 0 ∧ r' = some (.int (-100 - flt tx tn)) ∧ w' = w)) := by
  intro sz
  refine Ev.ofV [some (.ref B), some (.int (nI a)), none] (by decide) (Nat.le_of_ble_eq_true rfl) rfl rfl rfl ?_
  have h00 := h
  obtain ⟨nx, hh, gk, hX, hG⟩ := h00
  have hXb := hX
  obtain ⟨x1, x2, ⟨f0, n0, x3⟩, x4, x5, x6, R0, x7⟩ := hXb
  have hS0 := x4
  obtain ⟨hB, ⟨n, π, κ, hRR⟩, hW, hI, hO⟩ := hS0
  have hBb := hB
  obtain ⟨s1, ⟨li, s2, s2b⟩, ⟨ak, s3, s3b⟩, ⟨ro, s4, s4b⟩, ⟨ac, s5, s5b⟩, ⟨lf, s6, s6b⟩, s7⟩ := hBb
  have hRb := hRR
  obtain ⟨⟨F, r1, r2, r3⟩, hK, hP, hS, hR⟩ := hRb
  have x5b := x5
  obtain ⟨⟨hf, v1, v2, v3⟩, hns, hnx, v4⟩ := x5b
  refine v_aload_n dX7_readTextFor_0 rfl ?_
  refine v_wV0 oX7_readText dX7_readTextFor_1 ml_X7_241 (c_readText h) x1 (by decide) (Nat.le_of_ble_eq_true rfl) (Nat.le_refl _) (Nat.le_refl _) (fun r' w1 hq => ?_)
  rcases hq with ⟨q1, rfl, q3, q4, q5, q6⟩ | ⟨q1, rfl, rfl⟩
  · have q5b := q5
    obtain ⟨ny, hy, gy, ⟨y1, y2, y3, y4, y5⟩, -⟩ := q5b
    have hnw : nw tx tn = 1 + cnt (bl tx) tn := by
      unfold nw
      rw [if_pos q3.1]
    have hnb := q4.sz.1
    have hra := (hW.1 a ha).2
    have hlm : limW σ a < 16 := (hW.2.2.1 _ hra).1.2
    refine v_istore_n dX7_readTextFor_4 (by decide) rfl ?_
    refine v_iload_n dX7_readTextFor_5 rfl ?_
    refine v_if_eqN (tgt := 11) dX7_readTextFor_6 (by decide) (by decide) (fun _ => ?_) (fun z => absurd z (by decide))
    refine v_aload_n dX7_readTextFor_11 rfl ?_
    refine v_get 1 dX7_readTextFor_12 FTX7 (by decide) rfl fl_X7_19 y1 rfl ?_
    refine v_get 3 dX7_readTextFor_15 FTX6 (by decide) rfl fl_X7_115 q4.at rfl ?_
    refine v_aload_n dX7_readTextFor_18 rfl ?_
    refine v_get 2 dX7_readTextFor_19 FTX7 (by decide) rfl fl_X7_26 y1 rfl ?_
    refine v_iload_n dX7_readTextFor_22 rfl ?_
    refine u_rV1 oX4_limitOf dX7_readTextFor_23 ml_X7_274 (c_limitOf y4 a ha) y4.1.1 (by decide) (Nat.le_of_ble_eq_true rfl) (Nat.le_refl _) (Nat.le_refl _) ?_
    refine v_icmp_leN (tgt := 34) dX7_readTextFor_26 (by decide) (by omega) (by omega) (fun b26 => ?_) (fun b26 => ?_)
    ·
      refine v_iconst (v := nI 0) dX7_readTextFor_34 (by decide) ?_
      refine v_iret dX7_readTextFor_35 rfl (Nat.le_refl _) (Nat.le_refl _) ?_
      exact ⟨rfl, Or.inl ⟨q1, by omega, rfl, q3, q4, q5, q6⟩⟩
    ·
      refine v_bipush (v := -6) dX7_readTextFor_29 (by decide) ?_
      refine v_goto (tgt := 35) dX7_readTextFor_31 (by decide) ?_
      refine v_iret dX7_readTextFor_35 rfl (Nat.le_refl _) (Nat.le_refl _) ?_
      exact ⟨rfl, Or.inr (Or.inl ⟨q1, by omega, rfl, q5, q6⟩)⟩
  ·
    refine v_istore_n dX7_readTextFor_4 (by decide) rfl ?_
    refine v_iload_n dX7_readTextFor_5 rfl ?_
    refine v_if_eq (tgt := 11) dX7_readTextFor_6 (by decide) (fun b6 => ?_) (fun b6 => ?_)
    ·
      exact absurd b6 (err_ne x2.2.2 q1)
    ·
      refine v_iload_n dX7_readTextFor_9 rfl ?_
      refine v_iret dX7_readTextFor_10 rfl (Nat.le_refl _) (Nat.le_refl _) ?_
      exact ⟨rfl, Or.inr (Or.inr ⟨q1, rfl, rfl⟩)⟩
