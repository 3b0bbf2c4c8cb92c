theorem up_up (f : Nat → Int32) (k : Nat) (u v : Int32) : upd (upd f k u) k v = upd f k v := by
  funext q
  simp only [upd]
  split <;> rfl
theorem VI_vote {g : Nat → Int32} {v p k : Nat} (h : VI g) (hv : v < 10) (hp : p < 24) (hk : k < 16) (h0 : 0 ≤ g (1808 + 65 * k)) (hpl : g (1808 + 65 * k + 1) = nI p) : VI (upd g (32 + 24 * v + p) (g (1808 + 65 * k))) := by
  intro q hq
  have e : ∀ i, i ≠ 32 + 24 * v + p → upd g (32 + 24 * v + p) (g (1808 + 65 * k)) i = g i := fun i hi => up_ne _ _ hi
  by_cases z : 32 + q = 32 + 24 * v + p
  · refine Or.inr ⟨k, hk, by rw [e _ (by omega)]; exact h0, by rw [z, up_eq, e _ (by omega)], ?_⟩
    rw [e _ (by omega), hpl]
    congr 1
    omega
  · rw [e _ z]
    rcases h q hq with y | ⟨j, hj, a, b, c⟩
    · exact Or.inl y
    · exact Or.inr ⟨j, hj, by rw [e _ (by omega)]; exact a, by rw [e _ (by omega)]; exact b, by rw [e _ (by omega)]; exact c⟩
theorem VI_un {g : Nat → Int32} {v p : Nat} (h : VI g) (hv : v < 10) (hp : p < 24) : VI (upd g (32 + 24 * v + p) (-1)) := by
  intro q hq
  have e : ∀ i, i ≠ 32 + 24 * v + p → upd g (32 + 24 * v + p) (-1) i = g i := fun i hi => up_ne _ _ hi
  by_cases z : 32 + q = 32 + 24 * v + p
  · rw [z, up_eq]; exact Or.inl rfl
  · rw [e _ z]
    rcases h q hq with y | ⟨j, hj, a, b, c⟩
    · exact Or.inl y
    · exact Or.inr ⟨j, hj, by rw [e _ (by omega)]; exact a, by rw [e _ (by omega)]; exact b, by rw [e _ (by omega)]; exact c⟩
/-- a vote is set in a row's object -/
theorem RR_set {w w' : Wd} {a n i v p U u : Nat} {g : Nat → Int32} {π κ : Nat → Nat} (h : RR w a g n π κ) (hpl : ∀ j, j < n → nt (g (1808 + 65 * κ j + 1)) < 24) (hi : i < n) (hv : v < 10) (hp : nt (g (1808 + 65 * κ i + 1)) = p) (hm : g (32 + 24 * v + p) = -1) (hr : RwR w (a + 2 + 4 * π i) g (κ i) U) (hu : u < 1024) (hub : ∀ z, z < 10 → u.testBit z = (U.testBit z || (z == v))) (ew : w' (a + 2 + 4 * π i) = some (ob 2 [.ref (a + 2 + 4 * π i + 1), .int (g (1808 + 65 * κ i)), .int (g (1808 + 65 * κ i + 1)), .int (g (1808 + 65 * κ i + 2)), .int (g (1808 + 65 * κ i + 3)), .int (nI u)])) (e : ∀ q, q ≠ a + 2 + 4 * π i → w' q = w q) : RR w' a (upd g (32 + 24 * v + p) (g (1808 + 65 * κ i))) n π κ := by
  have hK := h.2.1
  have hki := hK.2.1 i hi
  have hp24 := hpl i hi
  have ha : ∀ q, q ≠ 32 + 24 * v + p → upd g (32 + 24 * v + p) (g (1808 + 65 * κ i)) q = g q := fun q hq => up_ne _ _ hq
  refine RR_row (V := u) h hi (ha _ (by omega)) (fun k hk => ha _ (by omega)) (fun q hq => e q (by omega)) ?_ (fun j hj hne b Z hZ => ?_)
  · unfold RwR
    rw [ha _ (by omega), ha _ (by omega), ha _ (by omega), ha _ (by omega), ha _ (by omega)]
    refine ⟨⟨ew, (hr.1.2.fr (fun q h1 h2 => e q (by omega))).congr (fun z hz => ha _ (by omega))⟩, hu, fun z hz => ?_⟩
    rw [hub z hz, hr.2.2 z hz]
    by_cases y : z = v
    · subst y
      rw [hp, up_eq]
      simp
    · rw [ha _ (by omega)]
      have : (z == v) = false := by simpa using y
      rw [this, Bool.or_false]
  · refine hZ.vote hv (by omega) (hpl j hj) (fun y => ?_)
    have hkj := hK.2.1 j hj
    have a1 : (g (1808 + 65 * κ i) == g (1808 + 65 * κ j)) = false := by
      have : ¬ g (1808 + 65 * κ i) = g (1808 + 65 * κ j) := fun z => hne (hK.inj hj hi z.symm)
      simpa using this
    have a2 : ((-1 : Int32) == g (1808 + 65 * κ j)) = false := by
      have := i_m1 hkj.2
      simpa using fun z : (-1 : Int32) = g (1808 + 65 * κ j) => this z.symm
    rw [a1, hm, a2]
set_option maxHeartbeats 1000000 in
set_option maxRecDepth 100000 in
theorem k_vote_none {w : Wd} {B ns tn : Nat} {σ tx : Nat → Int32} {k : Bool} (h : CR w B σ ns k tx tn) (v x : Int32) (t : Bool) (hp : plO σ x = none) : Wr mX7_vote 6 [.ref B, .int v, .int x, .int (b2i t)] w (CQ w B k tx tn (voteR σ ns v x t)) := by
  intro sz
  refine Ev.ofV [some (.ref B), some (.int v), some (.int x), some (.int (b2i t)), none] (by decide) (Nat.le_of_ble_eq_true rfl) rfl rfl rfl ?_
  have h00 := h
  obtain ⟨nx, hh, gk, hX, hG⟩ := h00
  have hXb := hX
  obtain ⟨x1, x2, ⟨f0, n0, x3⟩, x4, x5, x6, R0, x7⟩ := hXb
  have hS0 := x4
  obtain ⟨hB, ⟨n, π, κ, hRR⟩, hW, hI, hO⟩ := hS0
  have hBb := hB
  obtain ⟨s1, ⟨li, s2, s2b⟩, ⟨ak, s3, s3b⟩, ⟨ro, s4, s4b⟩, ⟨ac, s5, s5b⟩, ⟨lf, s6, s6b⟩, s7⟩ := hBb
  have hRb := hRR
  obtain ⟨⟨F, r1, r2, r3⟩, hK, hP, hS, hR⟩ := hRb
  have x5b := x5
  obtain ⟨⟨hf, v1, v2, v3⟩, hns, hnx, v4⟩ := x5b
  refine v_aload_n dX7_vote_0 rfl ?_
  refine v_get 2 dX7_vote_1 FTX7 (by decide) rfl fl_X7_26 x1 rfl ?_
  refine v_get 5 dX7_vote_4 FTX4 (by decide) rfl fl_X7_131 s1 rfl ?_
  refine v_iload_n dX7_vote_7 rfl ?_
  refine u_rV1 oX3_withNumber dX7_vote_8 ml_X7_144 (c_withN hRR x (plO_none hp hK)) r1 (by decide) (Nat.le_of_ble_eq_true rfl) (Nat.le_refl _) (Nat.le_refl _) ?_
  refine v_astoreN dX7_vote_11 (by decide) rfl ?_
  refine v_iload_n dX7_vote_13 rfl ?_
  refine u_rS1 oX7_isVisitor dX7_vote_14 ml_X7_128 (c_isVisitor v) (by decide) (Nat.le_of_ble_eq_true rfl) (Nat.le_refl _) (Nat.le_refl _) ?_
  refine v_if_eqB (tgt := 25) dX7_vote_17 (by decide) (fun b17 => ?_) (fun b17 => ?_)
  ·
    refine v_iconst (v := -1) dX7_vote_25 (by decide) ?_
    refine v_iret dX7_vote_26 rfl (Nat.le_refl _) (Nat.le_refl _) ?_
    have e : voteR σ ns v x t = (-1, ns, σ) := by
      unfold voteR
      rw [hp]; split <;> rfl
    rw [e]
    exact ⟨rfl, CQ.mk h (fr.rf _ _ _)⟩
  ·
    refine v_aloadN dX7_vote_20 rfl ?_
    refine v_ifnonnullN dX7_vote_22 ?_
    refine v_iconst (v := -1) dX7_vote_25 (by decide) ?_
    refine v_iret dX7_vote_26 rfl (Nat.le_refl _) (Nat.le_refl _) ?_
    have e : voteR σ ns v x t = (-1, ns, σ) := by
      unfold voteR
      rw [hp]; split <;> rfl
    rw [e]
    exact ⟨rfl, CQ.mk h (fr.rf _ _ _)⟩
set_option maxHeartbeats 1000000 in
set_option maxRecDepth 100000 in
theorem k_vote_no {w : Wd} {B ns tn : Nat} {σ tx : Nat → Int32} {k : Bool} (h : CR w B σ ns k tx tn) (v x : Int32) (t : Bool) (j : Nat) (hp : plO σ x = some j) (hg : inB v 9 = false) : Wr mX7_vote 6 [.ref B, .int v, .int x, .int (b2i t)] w (CQ w B k tx tn (voteR σ ns v x t)) := by
  intro sz
  refine Ev.ofV [some (.ref B), some (.int v), some (.int x), some (.int (b2i t)), none] (by decide) (Nat.le_of_ble_eq_true rfl) rfl rfl rfl ?_
  have h00 := h
  obtain ⟨nx, hh, gk, hX, hG⟩ := h00
  have hXb := hX
  obtain ⟨x1, x2, ⟨f0, n0, x3⟩, x4, x5, x6, R0, x7⟩ := hXb
  have hS0 := x4
  obtain ⟨hB, ⟨n, π, κ, hRR⟩, hW, hI, hO⟩ := hS0
  have hBb := hB
  obtain ⟨s1, ⟨li, s2, s2b⟩, ⟨ak, s3, s3b⟩, ⟨ro, s4, s4b⟩, ⟨ac, s5, s5b⟩, ⟨lf, s6, s6b⟩, s7⟩ := hBb
  have hRb := hRR
  obtain ⟨⟨F, r1, r2, r3⟩, hK, hP, hS, hR⟩ := hRb
  have x5b := x5
  obtain ⟨⟨hf, v1, v2, v3⟩, hns, hnx, v4⟩ := x5b
  obtain ⟨i, hi, ek⟩ := plO_row hp hK
  have hps := plO_some hp
  have hps2 : σ (1808 + 65 * κ i) = x := by rw [ek]; exact hps.2.2
  obtain ⟨Vt, hr, hVt, hbt⟩ := hR i hi
  have hki := hK.2.1 i hi
  have hrw := hW.rw hki.1 hki.2
  have hpb := hrw.2.1.2
  refine v_aload_n dX7_vote_0 rfl ?_
  refine v_get 2 dX7_vote_1 FTX7 (by decide) rfl fl_X7_26 x1 rfl ?_
  refine v_get 5 dX7_vote_4 FTX4 (by decide) rfl fl_X7_131 s1 rfl ?_
  refine v_iload_n dX7_vote_7 rfl ?_
  refine u_rV1 oX3_withNumber dX7_vote_8 ml_X7_144 (c_withS hRR x i hi hps2) r1 (by decide) (Nat.le_of_ble_eq_true rfl) (Nat.le_refl _) (Nat.le_refl _) ?_
  refine v_astore dX7_vote_11 (by decide) rfl ?_
  refine v_iload_n dX7_vote_13 rfl ?_
  refine u_rS1 oX7_isVisitor dX7_vote_14 ml_X7_128 (c_isVisitor v) (by decide) (Nat.le_of_ble_eq_true rfl) (Nat.le_refl _) (Nat.le_refl _) ?_
  refine v_if_eqB (tgt := 25) dX7_vote_17 (by decide) (fun b17 => ?_) (fun b17 => ?_)
  ·
    refine v_iconst (v := -1) dX7_vote_25 (by decide) ?_
    refine v_iret dX7_vote_26 rfl (Nat.le_refl _) (Nat.le_refl _) ?_
    have e : voteR σ ns v x t = (-1, ns, σ) := by
      unfold voteR
      rw [if_neg (by rw [hg]; decide)]
    rw [e]
    exact ⟨rfl, CQ.mk h (fr.rf _ _ _)⟩
  ·
    exact absurd hg (by rw [b17]; decide)
set_option maxHeartbeats 1000000 in
set_option maxRecDepth 100000 in
theorem k_voteN {w : Wd} {B ns tn : Nat} {σ tx : Nat → Int32} {k : Bool} (h : CR w B σ ns k tx tn) (a : Nat) (ha : a < 10) (x : Int32) (t : Bool) (j : Nat) (hp : plO σ x = some j) : Wr mX7_vote 6 [.ref B, .int (nI a), .int x, .int (b2i t)] w (CQ w B k tx tn (voteR σ ns (nI a) x t)) := by
  intro sz
  refine Ev.ofV [some (.ref B), some (.int (nI a)), some (.int x), some (.int (b2i t)), none] (by decide) (Nat.le_of_ble_eq_true rfl) rfl rfl rfl ?_
  have h00 := h
  obtain ⟨nx, hh, gk, hX, hG⟩ := h00
  have hXb := hX
  obtain ⟨x1, x2, ⟨f0, n0, x3⟩, x4, x5, x6, R0, x7⟩ := hXb
  have hS0 := x4
  obtain ⟨hB, ⟨n, π, κ, hRR⟩, hW, hI, hO⟩ := hS0
  have hBb := hB
  obtain ⟨s1, ⟨li, s2, s2b⟩, ⟨ak, s3, s3b⟩, ⟨ro, s4, s4b⟩, ⟨ac, s5, s5b⟩, ⟨lf, s6, s6b⟩, s7⟩ := hBb
  have hRb := hRR
  obtain ⟨⟨F, r1, r2, r3⟩, hK, hP, hS, hR⟩ := hRb
  have x5b := x5
  obtain ⟨⟨hf, v1, v2, v3⟩, hns, hnx, v4⟩ := x5b
  obtain ⟨i, hi, ek⟩ := plO_row hp hK
  have hps := plO_some hp
  have hps2 : σ (1808 + 65 * κ i) = x := by rw [ek]; exact hps.2.2
  obtain ⟨Vt, hr, hVt, hbt⟩ := hR i hi
  have hki := hK.2.1 i hi
  have hrw := hW.rw hki.1 hki.2
  have hpb := hrw.2.1.2
  have hga : inB (nI a) 9 = true := by rw [inB_nI (by omega) (by omega)]; simp; omega
  have hpi16 := hP.1 i (by have := hK.1; omega)
  refine v_aload_n dX7_vote_0 rfl ?_
  refine v_get 2 dX7_vote_1 FTX7 (by decide) rfl fl_X7_26 x1 rfl ?_
  refine v_get 5 dX7_vote_4 FTX4 (by decide) rfl fl_X7_131 s1 rfl ?_
  refine v_iload_n dX7_vote_7 rfl ?_
  refine u_rV1 oX3_withNumber dX7_vote_8 ml_X7_144 (c_withS hRR x i hi hps2) r1 (by decide) (Nat.le_of_ble_eq_true rfl) (Nat.le_refl _) (Nat.le_refl _) ?_
  refine v_astore dX7_vote_11 (by decide) rfl ?_
  refine v_iload_n dX7_vote_13 rfl ?_
  refine u_rS1 oX7_isVisitor dX7_vote_14 ml_X7_128 (c_isVisitor (nI a)) (by decide) (Nat.le_of_ble_eq_true rfl) (Nat.le_refl _) (Nat.le_refl _) ?_
  refine v_if_eqB (tgt := 25) dX7_vote_17 (by decide) (fun b17 => ?_) (fun b17 => ?_)
  ·
    exact absurd hga (by rw [b17]; decide)
  ·
    refine v_aload dX7_vote_20 rfl ?_
    refine v_ifnonnull (tgt := 27) dX7_vote_22 (by decide) ?_
    refine v_aload dX7_vote_27 rfl ?_
    refine v_get 3 dX7_vote_29 FTX2 (by decide) rfl fl_X7_148 hr.1 rfl ?_
    refine v_iload_n dX7_vote_32 rfl ?_
    refine v_icmp_ne (tgt := 39) dX7_vote_33 (by decide) (fun b33 => ?_) (fun b33 => ?_)
    ·
      refine v_aload dX7_vote_39 rfl ?_
      refine v_iload_n dX7_vote_41 rfl ?_
      refine u_rV1 oX2_hasVoteOf dX7_vote_42 ml_X7_153 (c_hasVoteOf hr hVt a ha) hr.1 (by decide) (Nat.le_of_ble_eq_true rfl) (Nat.le_refl _) (Nat.le_refl _) ?_
      refine v_iload_n dX7_vote_45 rfl ?_
      refine v_icmp_ne (tgt := 52) dX7_vote_46 (by decide) (fun b46 => ?_) (fun b46 => ?_)
      ·
        have hvote : ¬ decide (σ (vcl σ a (κ i)) = x) = t := by
          intro z
          apply b46
          rw [hbt a ha, hps2, ← z]
          rw [Bool.beq_eq_decide_eq]
          rfl
        refine v_aload_n dX7_vote_52 rfl ?_
        refine v_get 3 dX7_vote_53 FTX7 (by decide) rfl fl_X7_33 x1 rfl ?_
        refine v_aload_n dX7_vote_56 rfl ?_
        refine v_get 2 dX7_vote_57 FTX7 (by decide) rfl fl_X7_26 x1 rfl ?_
        refine v_wV1 oX0_push dX7_vote_60 ml_X7_55 (c_push x5 x4 (by omega)) v1 (by decide) (Nat.le_of_ble_eq_true rfl) (Nat.le_refl _) (Nat.le_refl _) (fun r' w1 hq => ?_)
        obtain ⟨rfl, q1, q2⟩ := hq
        have hC := CR_push hX hG q1 q2
        have hCb := hC
        obtain ⟨ny, hy, gy, ⟨y1, y2, ⟨f1, m1, y3⟩, y4, y5, y6, R1, y7⟩, hGy⟩ := hCb
        have y4b := y4
        obtain ⟨hBy, -, hWy, hIy, hOy⟩ := y4b
        have hByb := hBy
        obtain ⟨t1, ⟨liy, t2, t2b⟩, ⟨aky, t3, t3b⟩, ⟨roy, t4, t4b⟩, ⟨acy, t5, t5b⟩, ⟨lfy, t6, t6b⟩, t7⟩ := hByb
        have f1w : fr B 1017 w w1 := q2.mono (by omega) (by omega)
        have hRR1 : RR w1 (B + 6 + 6) (rcS σ ns) n π κ := (hRR.fr (fun q h1 h2 => q2 q (by omega))).congr hW (fun q hq _ => rcS_0 hq)
        have hi0 : ∀ q, q < 2848 → rcS σ ns q = σ q := fun q hq => rcS_0 hq
        have hr1 := hr.fr (w' := w1) (fun q h1 h2 => q2 q (by omega))
        have hkb : ∀ z, z < n → κ z < 16 := fun z hz => (hK.2.1 z hz).1
        have hpl1 : ∀ z, z < n → nt (rcS σ ns (1808 + 65 * κ z + 1)) < 24 := fun z hz => by
          have := hkb z hz
          rw [hi0 _ (by omega)]
          exact hRR.pl hW z hz
        have hp21 : ∀ z, z < n → rcS σ ns (1808 + 65 * κ z + 1) = nI (nt (rcS σ ns (1808 + 65 * κ z + 1))) := fun z hz => by
          have := hkb z hz
          rw [hi0 _ (by omega)]
          exact (hW.rw (hK.2.1 z hz).1 (hK.2.1 z hz).2).2.1.1
        refine v_aload_n dX7_vote_63 rfl ?_
        refine v_get 2 dX7_vote_64 FTX7 (by decide) rfl fl_X7_26 y1 rfl ?_
        refine v_get 5 dX7_vote_67 FTX4 (by decide) rfl fl_X7_131 t1 rfl ?_
        refine v_iload_n dX7_vote_70 rfl ?_
        refine v_aload dX7_vote_71 rfl ?_
        refine v_get 2 dX7_vote_73 FTX2 (by decide) rfl fl_X7_156 hr1.1 rfl ?_
        rw [hrw.2.1.1]
        refine v_wV2 oX3_takeVoteBack dX7_vote_76 ml_X7_159 (c_takeVoteBack hRR1 hpl1 hp21 a (nt (σ (1808 + 65 * κ i + 1))) ha hpb) hRR1.1.choose_spec.1 (by decide) (Nat.le_of_ble_eq_true rfl) (Nat.le_refl _) (Nat.le_refl _) (fun r' w2 hq3 => ?_)
        obtain ⟨rfl, k3, k4⟩ := hq3
        obtain ⟨Vu, hru⟩ := k3.2.2.2.2 i hi
        have g20 : ∀ q, q ≠ (32 + 24 * a + (nt (σ (1808 + 65 * κ i + 1)))) → q < 2848 → (upd (rcS σ ns) (32 + 24 * a + (nt (σ (1808 + 65 * κ i + 1)))) (-1)) q = σ q := fun q h1 h2 => (up_ne _ _ h1).trans (hi0 q h2)
        have hW2 : WS (upd (rcS σ ns) (32 + 24 * a + (nt (σ (1808 + 65 * κ i + 1)))) (-1)) := WS_vt hWy (fun q hq => up_ne _ _ (by omega))
        have hI2 : VI (upd (rcS σ ns) (32 + 24 * a + (nt (σ (1808 + 65 * κ i + 1)))) (-1)) := VI_un hIy ha hpb
        have hO2 : OW (upd (rcS σ ns) (32 + 24 * a + (nt (σ (1808 + 65 * κ i + 1)))) (-1)) := hOy.congr (fun z hz => ⟨up_ne _ _ (by omega), up_ne _ _ (by omega), up_ne _ _ (by omega)⟩)
        refine v_iload_n dX7_vote_79 rfl ?_
        refine v_if_eqB (tgt := 96) dX7_vote_80 (by decide) (fun b80 => ?_) (fun b80 => ?_)
        ·
          subst b80
          have hrz := hru
          have hvz := RwR.vf hru hW2 hI2 k3.2.1.di hki.1 (by rw [g20 _ (by omega) (by omega)]; exact hki.2)
          have q7 := SR_rw y4 k3 k4 hW2 hI2 hO2 (fun q hq => up_ne _ _ (by omega))
          refine v_aload dX7_vote_96 rfl ?_
          refine u_rV0 oX2_votes dX7_vote_98 ml_X7_166 (c_votes hrz.1 hrz.2.1) hru.1.1 (by decide) (Nat.le_of_ble_eq_true rfl) (Nat.le_refl _) (Nat.le_refl _) ?_
          refine v_iret dX7_vote_101 rfl (Nat.le_refl _) (Nat.le_refl _) ?_
          rw [hvz]
          have hvf : vfk (upd (rcS σ ns) (32 + 24 * a + (nt (σ (1808 + 65 * κ i + 1)))) (-1)) (κ i) = vf (upd (rcS σ ns) (32 + 24 * a + (nt (σ (1808 + 65 * κ i + 1)))) (-1)) x := by
            unfold vfk vf
            rw [g20 (1808 + 65 * κ i) (by omega) (by omega), hps2]
          rw [hvf]
          have e : voteR σ ns (nI a) x false = (nI (vf (upd (rcS σ ns) (32 + 24 * a + (nt (σ (1808 + 65 * κ i + 1)))) (-1)) x), rcn ns, (upd (rcS σ ns) (32 + 24 * a + (nt (σ (1808 + 65 * κ i + 1)))) (-1))) := by
            unfold voteR
            rw [if_pos hga, hp]; show (if σ (1808 + 65 * j + 2) = nI a then _ else if decide (σ (vcl σ (nt (nI a)) j) = x) = false then _ else _) = _; rw [← ek, nt_nI (n := a) (by omega)]; rw [if_neg b33, if_neg hvote]; rfl
          rw [e]
          exact ⟨rfl, CQ.mk (CR_st hC q7 (k4.mono (by omega) (by omega)) (fun q hq => up_ne _ _ (by omega))) (f1w.tr (k4.mono (by omega) (by omega)))⟩
        ·
          refine v_aload dX7_vote_83 rfl ?_
          refine v_dup dX7_vote_85 rfl ?_
          refine v_get 5 dX7_vote_86 FTX2 (by decide) rfl fl_X7_163 hru.1.1 rfl ?_
          refine v_iconst (v := nI 1) dX7_vote_89 (by decide) ?_
          refine v_iload_n dX7_vote_90 rfl ?_
          refine v_ishl dX7_vote_91 ?_
          refine v_ior dX7_vote_92 ?_
          obtain ⟨u, hu1, hu2, hu3⟩ := set_ok hru.2.1 ha
          refine v_eqs (show [Value.int (nI u), .ref (B + 6 + 6 + 2 + 4 * π i)] = _ by rw [← hu2]; rfl) ?_
          refine v_put 5 dX7_vote_93 FTX2 (by decide) rfl fl_X7_163 hru.1.1 rfl rfl (Nat.le_of_ble_eq_true rfl) rfl ?_
          have ew : wu w2 (B + 6 + 6 + 2 + 4 * π i) (ob 2 [.ref (B + 6 + 6 + 2 + 4 * π i + 1), .int ((upd (rcS σ ns) (32 + 24 * a + (nt (σ (1808 + 65 * κ i + 1)))) (-1)) (1808 + 65 * κ i)), .int ((upd (rcS σ ns) (32 + 24 * a + (nt (σ (1808 + 65 * κ i + 1)))) (-1)) (1808 + 65 * κ i + 1)), .int ((upd (rcS σ ns) (32 + 24 * a + (nt (σ (1808 + 65 * κ i + 1)))) (-1)) (1808 + 65 * κ i + 2)), .int ((upd (rcS σ ns) (32 + 24 * a + (nt (σ (1808 + 65 * κ i + 1)))) (-1)) (1808 + 65 * κ i + 3)), .int (nI u)]) (B + 6 + 6 + 2 + 4 * π i) = _ := wu_eq _ _ _
          have hpl2 : ∀ z, z < n → nt ((upd (rcS σ ns) (32 + 24 * a + (nt (σ (1808 + 65 * κ i + 1)))) (-1)) (1808 + 65 * κ z + 1)) < 24 := fun z hz => by
            have := hkb z hz
            rw [up_ne _ _ (by omega)]
            exact hpl1 z hz
          have hpi2 : nt ((upd (rcS σ ns) (32 + 24 * a + (nt (σ (1808 + 65 * κ i + 1)))) (-1)) (1808 + 65 * κ i + 1)) = (nt (σ (1808 + 65 * κ i + 1))) := by rw [g20 _ (by omega) (by omega)]
          have k5 := RR_set k3 hpl2 hi ha hpi2 (up_eq _ _ _) hru hu1 hu3 ew (fun q hq => wu_ne _ _ hq)
          rw [show upd (upd (rcS σ ns) (32 + 24 * a + (nt (σ (1808 + 65 * κ i + 1)))) (-1)) (32 + 24 * a + (nt (σ (1808 + 65 * κ i + 1)))) ((upd (rcS σ ns) (32 + 24 * a + (nt (σ (1808 + 65 * κ i + 1)))) (-1)) (1808 + 65 * κ i)) = upd (rcS σ ns) (32 + 24 * a + (nt (σ (1808 + 65 * κ i + 1)))) x by rw [g20 (1808 + 65 * κ i) (by omega) (by omega), hps2, up_up]] at k5
          have k6 := k4.wu (ob 2 [.ref (B + 6 + 6 + 2 + 4 * π i + 1), .int ((upd (rcS σ ns) (32 + 24 * a + (nt (σ (1808 + 65 * κ i + 1)))) (-1)) (1808 + 65 * κ i)), .int ((upd (rcS σ ns) (32 + 24 * a + (nt (σ (1808 + 65 * κ i + 1)))) (-1)) (1808 + 65 * κ i + 1)), .int ((upd (rcS σ ns) (32 + 24 * a + (nt (σ (1808 + 65 * κ i + 1)))) (-1)) (1808 + 65 * κ i + 2)), .int ((upd (rcS σ ns) (32 + 24 * a + (nt (σ (1808 + 65 * κ i + 1)))) (-1)) (1808 + 65 * κ i + 3)), .int (nI u)]) (b := B + 6 + 6 + 2 + 4 * π i) (by omega) (by have := hP.1 i (by have := hK.1; omega); omega)
          have hs3 : ∀ q, q ≠ (32 + 24 * a + (nt (σ (1808 + 65 * κ i + 1)))) → upd (rcS σ ns) (32 + 24 * a + (nt (σ (1808 + 65 * κ i + 1)))) x q = rcS σ ns q := fun q hq => up_ne _ _ hq
          have hW3 : WS (upd (rcS σ ns) (32 + 24 * a + (nt (σ (1808 + 65 * κ i + 1)))) x) := WS_vt hWy (fun q hq => hs3 q (by omega))
          have hI3 : VI (upd (rcS σ ns) (32 + 24 * a + (nt (σ (1808 + 65 * κ i + 1)))) x) := by
            have := VI_vote hIy ha hpb hki.1 (by rw [hi0 _ (by omega)]; exact hki.2) (by rw [hi0 _ (by omega)]; exact hrw.2.1.1)
            rw [hi0 (1808 + 65 * κ i) (by omega), hps2] at this
            exact this
          have hO3 : OW (upd (rcS σ ns) (32 + 24 * a + (nt (σ (1808 + 65 * κ i + 1)))) x) := hOy.congr (fun z hz => ⟨hs3 _ (by omega), hs3 _ (by omega), hs3 _ (by omega)⟩)
          obtain ⟨Vz, hrz⟩ := k5.2.2.2.2 i hi
          have hvz := RwR.vf hrz hW3 hI3 k5.2.1.di hki.1 (by rw [hs3 _ (by omega), hi0 _ (by omega)]; exact hki.2)
          have q7 := SR_rw y4 k5 k6 hW3 hI3 hO3 (fun q hq => hs3 q (by omega))
          refine v_aload dX7_vote_96 rfl ?_
          refine u_rV0 oX2_votes dX7_vote_98 ml_X7_166 (c_votes hrz.1 hrz.2.1) hrz.1.1 (by decide) (Nat.le_of_ble_eq_true rfl) (Nat.le_refl _) (Nat.le_refl _) ?_
          refine v_iret dX7_vote_101 rfl (Nat.le_refl _) (Nat.le_refl _) ?_
          rw [hvz]
          have hvf : vfk (upd (rcS σ ns) (32 + 24 * a + (nt (σ (1808 + 65 * κ i + 1)))) x) (κ i) = vf (upd (rcS σ ns) (32 + 24 * a + (nt (σ (1808 + 65 * κ i + 1)))) x) x := by
            unfold vfk vf
            rw [hs3 (1808 + 65 * κ i) (by omega), hi0 _ (by omega), hps2]
          rw [hvf]
          subst b80
          have e : voteR σ ns (nI a) x true = (nI (vf (upd (rcS σ ns) (32 + 24 * a + (nt (σ (1808 + 65 * κ i + 1)))) x) x), rcn ns, upd (rcS σ ns) (32 + 24 * a + (nt (σ (1808 + 65 * κ i + 1)))) x) := by
            unfold voteR
            rw [if_pos hga, hp]; show (if σ (1808 + 65 * j + 2) = nI a then _ else if decide (σ (vcl σ (nt (nI a)) j) = x) = true then _ else _) = _; rw [← ek, nt_nI (n := a) (by omega)]; rw [if_neg b33, if_neg hvote]; rfl
          rw [e]
          exact ⟨rfl, CQ.mk (CR_st hC q7 (k6.mono (by omega) (by omega)) (fun q hq => hs3 q (by omega))) (f1w.tr (k6.mono (by omega) (by omega)))⟩
      ·
        have hvote : decide (σ (vcl σ a (κ i)) = x) = t := by
          have := b2i_inj b46
          rw [hbt a ha, hps2] at this
          rw [← this]
          exact (Bool.beq_eq_decide_eq _ _).symm
        refine v_bipush (v := -5) dX7_vote_49 (by decide) ?_
        refine v_iret dX7_vote_51 rfl (Nat.le_refl _) (Nat.le_refl _) ?_
        have e : voteR σ ns (nI a) x t = (-5, ns, σ) := by
          unfold voteR
          rw [if_pos hga, hp]; show (if σ (1808 + 65 * j + 2) = nI a then _ else if decide (σ (vcl σ (nt (nI a)) j) = x) = t then _ else _) = _; rw [← ek, nt_nI (n := a) (by omega)]; rw [if_neg b33, if_pos hvote]
        rw [e]
        exact ⟨rfl, CQ.mk h (fr.rf _ _ _)⟩
    ·
      refine v_bipush (v := -4) dX7_vote_36 (by decide) ?_
      refine v_iret dX7_vote_38 rfl (Nat.le_refl _) (Nat.le_refl _) ?_
      have e : voteR σ ns (nI a) x t = (-4, ns, σ) := by
        unfold voteR
        rw [if_pos hga, hp]; show (if σ (1808 + 65 * j + 2) = nI a then _ else if decide (σ (vcl σ (nt (nI a)) j) = x) = t then _ else _) = _; rw [← ek, nt_nI (n := a) (by omega)]; rw [if_pos b33]
      rw [e]
      exact ⟨rfl, CQ.mk h (fr.rf _ _ _)⟩
theorem k_vote {w : Wd} {B ns tn : Nat} {σ tx : Nat → Int32} {k : Bool} (h : CR w B σ ns k tx tn) (v x : Int32) (t : Bool) : Wr mX7_vote 6 [.ref B, .int v, .int x, .int (b2i t)] w (CQ w B k tx tn (voteR σ ns v x t)) := by
  cases hp : plO σ x with
  | none => exact k_vote_none h v x t hp
  | some j =>
  by_cases hg : inB v 9 = false
  · exact k_vote_no h v x t j hp hg
  have hv := inB_ub (by omega) (bfalse hg)
  rw [hv.1]
  exact k_voteN h (nt v) hv.2 x t j hp
