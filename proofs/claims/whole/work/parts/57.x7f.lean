theorem WS_vt {g s : Nat → Int32} (h : WS g) (e : ∀ q, (q < 32 ∨ 272 ≤ q) → s q = g q) : WS s := by
  obtain ⟨h1, h2, h3, h4, h5, h6, h7⟩ := h
  refine ⟨fun a ha => ?_, fun i hi => ?_, fun i hi => ?_, ?_, ?_, fun p hp => ?_, fun k hk => ?_⟩
  · rw [e _ (by omega)]; exact h1 a ha
  · rw [e _ (by omega)]; exact h2 i hi
  · rw [e _ (by omega)]; exact h3 i hi
  · rw [e _ (by omega)]; exact h4
  · rw [e _ (by omega)]; exact h5
  · rw [e _ (by omega)]
    exact ⟨(h6 p hp).1, (h6 p hp).2.imp id (okT_congr (fun i hi => (e _ (by omega)).symm))⟩
  · rw [e _ (by omega)]
    refine (h7 k hk).imp id (fun ⟨a1, a2, a3, a4, a5, a6⟩ => ?_)
    unfold rwk
    rw [e _ (by omega), e 18 (by omega), e _ (by omega), e _ (by omega), e _ (by omega), e _ (by omega)]
    exact ⟨a1, a2, a3, a4, a5, okT_congr (fun i hi => (e _ (by omega)).symm) a6⟩
theorem SR_rw {w w' : Wd} {S n : Nat} {g s : Nat → Int32} {π κ : Nat → Nat} (h : SR w S g) (hR : RR w' (S + 6) s n π κ) (hf : fr (S + 6) 66 w w') (hW : WS s) (hI : VI s) (hO : OW s) (e : ∀ q, (q < 18 ∨ (19 ≤ q ∧ q < 32) ∨ (272 ≤ q ∧ q < 1808)) → s q = g q) : SR w' S s := by
  refine ⟨?_, ⟨n, π, κ, hR⟩, hW, hI, hO⟩
  show SBx _ S _ (s 16) (s 17) (s 19) (s 20) (s 21)
  rw [e 16 (by omega), e 17 (by omega), e 19 (by omega), e 20 (by omega), e 21 (by omega)]
  exact (h.1.fr (fun q a b c => hf q (by omega))).congr (fun q hq => e q (by omega))
theorem WS_rwtS {g tx : Nat → Int32} {k p v tn : Nat} (h : WS g) (hk : k < 16) (hp : p < 24) (hv : v < 10) (ht : tn ≤ 60) (hok : okT tx tn) (h2 : nt (g 18) < 200) : WS (rwtS g k p v (g 18) tx tn) := by
  have h18 := h.2.2.2.2.1
  have e18 : rwtS g k p v (g 18) tx tn 18 = nI (nt (g 18) + 1) := by
    rw [rwt_18]
    have := h18.1
    rw [← nI_addN, ← h18.1]
  refine WS_rwt h hk (fun q hq => rwt_out (by omega) (by omega) ht) ?_ (fun q a b c => rwt_out c (by omega) ht) (Or.inr ?_)
  · rw [e18, nt_nI (by omega)]
    exact ⟨ub_nI (by omega) (by omega), by omega⟩
  · unfold rwk
    rw [rwt_0, rwt_1, rwt_2, rwt_3, rwt_4, e18, nt_nI (n := nt (g 18) + 1) (by omega), nt_nI (n := tn) (by omega)]
    refine ⟨⟨h18.1, by omega⟩, ub_nI hp (by omega), ub_nI hv (by omega), ub_nI (by omega) (by omega), ub_nI (by omega) (by omega), okT_congr (fun j hj => ?_) hok⟩
    show tx j = rwtS g k p v (g 18) tx tn (1808 + 65 * k + 5 + j)
    rw [rwt_5 hj]
theorem VI_rwtS {g tx : Nat → Int32} {k p v tn : Nat} {x : Int32} (h : VI g) (hk : k < 16) (ht : tn ≤ 60) (hf : ¬ 0 ≤ g (1808 + 65 * k)) : VI (rwtS g k p v x tx tn) := by
  intro q hq
  rw [rwt_out (by omega) (by omega) ht]
  rcases h q hq with z | ⟨j, hj, a, b, c⟩
  · exact Or.inl z
  · have hjk : j ≠ k := fun e => hf (by rw [← e]; exact a)
    exact Or.inr ⟨j, hj, by rw [rwt_out (by omega) (by omega) ht]; exact a, by rw [rwt_out (by omega) (by omega) ht]; exact b, by rw [rwt_out (by omega) (by omega) ht]; exact c⟩
theorem OW_rwtS {g tx : Nat → Int32} {k p v tn : Nat} {x : Int32} (h : OW g) (hk : k < 16) (ht : tn ≤ 60) (hx : ∀ j, j < 16 → j ≠ k → 0 ≤ g (1808 + 65 * j) → ¬ (g (1808 + 65 * j + 1) = nI p ∧ g (1808 + 65 * j + 2) = nI v)) : OW (rwtS g k p v x tx tn) := by
  intro i j hi hj h0 h1 h2 h3
  by_cases z : i = k
  · by_cases y : j = k
    · rw [z, y]
    · exfalso
      rw [z, rwt_1, rwt_out (by omega) (by omega) ht] at h2
      rw [z, rwt_2, rwt_out (by omega) (by omega) ht] at h3
      rw [rwt_out (by omega) (by omega) ht] at h1
      exact hx j hj y h1 ⟨h2.symm, h3.symm⟩
  · by_cases y : j = k
    · exfalso
      rw [y, rwt_1, rwt_out (by omega) (by omega) ht] at h2
      rw [y, rwt_2, rwt_out (by omega) (by omega) ht] at h3
      rw [rwt_out (by omega) (by omega) ht] at h0
      exact hx i hi z h0 ⟨h2, h3⟩
    · rw [rwt_out (by omega) (by omega) ht] at h0 h1
      rw [rwt_out (by omega) (by omega) ht, rwt_out (by omega) (by omega) ht] at h2 h3
      exact h i j hi hj h0 h1 h2 h3
theorem dnO_ex {p : Nat → Bool} {k : Nat} (hp : p k = true) (hk : k < 16) : ∀ n, 16 ≤ n + k → n ≤ 16 → ∃ j, dnO p n = some j
  | 0, h, _ => by omega
  | n + 1, h, hn => by
    by_cases e : p (15 - n) = true
    · exact ⟨_, by rw [dnO, if_pos e]⟩
    · rw [dnO, if_neg e]
      refine dnO_ex hp hk n ?_ (by omega)
      by_cases z : 15 - n = k
      · rw [z] at e
        exact absurd hp e
      · omega
theorem free_iff {g : Nat → Int32} {n : Nat} {κ : Nat → Nat} (hK : KR g n κ) : (n < 16 → ∃ k, dnO (freP g) 16 = some k) ∧ (¬ n < 16 → dnO (freP g) 16 = none) := by
  have hc := KR_cnt hK (fun _ => true)
  rw [cnt_T] at hc
  refine ⟨fun hn => ?_, fun hn => ?_⟩
  · have : ∃ k, k < 16 ∧ freP g k = true := by
      by_cases h : ∃ k, k < 16 ∧ freP g k = true
      · exact h
      · exfalso
        have : cnt (fun k => decide (0 ≤ g (1808 + 65 * k)) && true) 16 = cnt (fun _ => true) 16 := cnt_congr (fun k hk => by
          have hf : freP g k = false := by
            cases e : freP g k
            · rfl
            · exact absurd ⟨k, hk, e⟩ h
          unfold freP at hf
          have h0 : 0 ≤ g (1808 + 65 * k) := Int32.not_lt.mp (of_decide_eq_false hf)
          rw [decide_eq_true h0]
          rfl)
        rw [this, cnt_T] at hc
        omega
    obtain ⟨k, hk, e⟩ := this
    exact dnO_ex e hk 16 (by omega) (Nat.le_refl _)
  · cases e : dnO (freP g) 16 with
    | none => rfl
    | some k =>
      exfalso
      have h1 := dnO_some e
      have h2 : (decide (0 ≤ g (1808 + 65 * k)) && true) = false := by
        have := h1.2
        unfold freP at this
        rw [decide_eq_false (Int32.not_le.mpr (of_decide_eq_true this))]
        rfl
      have h3 : cnt (fun k => decide (0 ≤ g (1808 + 65 * k)) && true) 16 < cnt (fun _ => true) 16 := cnt_sub1 (fun _ _ _ => rfl) h1.1 rfl h2
      rw [cnt_T] at h3
      omega
theorem bef_none {g : Nat → Int32} {v p n : Nat} {κ : Nat → Nat} (h : befO g v p = none) (hK : KR g n κ) : ∀ i, i < n → ¬ (g (1808 + 65 * κ i + 2) = nI v ∧ g (1808 + 65 * κ i + 1) = nI p) := by
  intro i hi z
  have hk := hK.2.1 i hi
  have h1 : ownP g v p (κ i) = false := lsO_none h (κ i) hk.1
  unfold ownP at h1
  rw [decide_eq_true hk.2, z.1, z.2] at h1
  simp at h1
theorem bef_some {g : Nat → Int32} {v p k n : Nat} {κ : Nat → Nat} (h : befO g v p = some k) (hK : KR g n κ) : k < 16 ∧ 0 ≤ g (1808 + 65 * k) ∧ (g (1808 + 65 * k + 2) = nI v ∧ g (1808 + 65 * k + 1) = nI p) ∧ ∃ j, j < n ∧ κ j = k := by
  have h1 := lsO_some h
  have h2 := h1.2
  unfold ownP at h2
  simp only [Bool.and_eq_true, decide_eq_true_eq, beq_iff_eq] at h2
  exact ⟨h1.1, h2.1.1, ⟨h2.2, h2.1.2⟩, hK.2.2.2 k h1.1 h2.1.1⟩
set_option maxHeartbeats 1000000 in
set_option maxRecDepth 100000 in
theorem k_rewrite_no {w : Wd} {B ns tn : Nat} {σ tx : Nat → Int32} {k : Bool} (h : CR w B σ ns k tx tn) (v x y : Int32) (hg : (inB v 9 && (inB x 7 && inB y 2)) = false) : Wr mX7_rewrite 6 [.ref B, .int v, .int x, .int y] w (CQ w B k tx tn (rewriteR σ ns tx tn v x y)) := by
  intro sz
  refine Ev.ofV [some (.ref B), some (.int v), some (.int x), some (.int y), none, none] (by decide) (Nat.le_of_ble_eq_true rfl) rfl rfl rfl ?_
  have h00 := h
  obtain ⟨nx, hh, gk, hX, hG⟩ := h00
  have hXb := hX
  obtain ⟨x1, x2, ⟨f0, n0, x3⟩, x4, x5, x6, R0, x7⟩ := hXb
  have hS0 := x4
  obtain ⟨hB, ⟨n, π, κ, hRR⟩, hW, hI, hO⟩ := hS0
  have hBb := hB
  obtain ⟨s1, ⟨li, s2, s2b⟩, ⟨ak, s3, s3b⟩, ⟨ro, s4, s4b⟩, ⟨ac, s5, s5b⟩, ⟨lf, s6, s6b⟩, s7⟩ := hBb
  have hRb := hRR
  obtain ⟨⟨F, r1, r2, r3⟩, hK, hP, hS, hR⟩ := hRb
  have x5b := x5
  obtain ⟨⟨hf, v1, v2, v3⟩, hns, hnx, v4⟩ := x5b
  refine v_iload_n dX7_rewrite_0 rfl ?_
  refine u_rS1 oX7_isVisitor dX7_rewrite_1 ml_X7_128 (c_isVisitor v) (by decide) (Nat.le_of_ble_eq_true rfl) (Nat.le_refl _) (Nat.le_refl _) ?_
  refine v_if_eqB (tgt := 21) dX7_rewrite_4 (by decide) (fun b4 => ?_) (fun b4 => ?_)
  ·
    refine v_iconst (v := -1) dX7_rewrite_21 (by decide) ?_
    refine v_iret dX7_rewrite_22 rfl (Nat.le_refl _) (Nat.le_refl _) ?_
    have e : rewriteR σ ns tx tn v x y = (-1, ns, σ) := by
      unfold rewriteR
      rw [if_neg (by rw [hg]; decide)]
    rw [e]
    exact ⟨rfl, CQ.mk h (fr.rf _ _ _)⟩
  ·
    refine v_iload_n dX7_rewrite_7 rfl ?_
    refine u_rS1 oX7_isWork dX7_rewrite_8 ml_X7_79 (c_isWork x) (by decide) (Nat.le_of_ble_eq_true rfl) (Nat.le_refl _) (Nat.le_refl _) ?_
    refine v_if_eqB (tgt := 21) dX7_rewrite_11 (by decide) (fun b11 => ?_) (fun b11 => ?_)
    ·
      refine v_iconst (v := -1) dX7_rewrite_21 (by decide) ?_
      refine v_iret dX7_rewrite_22 rfl (Nat.le_refl _) (Nat.le_refl _) ?_
      have e : rewriteR σ ns tx tn v x y = (-1, ns, σ) := by
        unfold rewriteR
        rw [if_neg (by rw [hg]; decide)]
      rw [e]
      exact ⟨rfl, CQ.mk h (fr.rf _ _ _)⟩
    ·
      refine v_iload_n dX7_rewrite_14 rfl ?_
      refine u_rS1 oX7_isTongue dX7_rewrite_15 ml_X7_63 (c_isTongue y) (by decide) (Nat.le_of_ble_eq_true rfl) (Nat.le_refl _) (Nat.le_refl _) ?_
      refine v_if_neB (tgt := 23) dX7_rewrite_18 (by decide) (fun b18 => ?_) (fun b18 => ?_)
      ·
        exact absurd hg (by rw [b4, b11, b18]; decide)
      ·
        refine v_iconst (v := -1) dX7_rewrite_21 (by decide) ?_
        refine v_iret dX7_rewrite_22 rfl (Nat.le_refl _) (Nat.le_refl _) ?_
        have e : rewriteR σ ns tx tn v x y = (-1, ns, σ) := by
          unfold rewriteR
          rw [if_neg (by rw [hg]; decide)]
        rw [e]
        exact ⟨rfl, CQ.mk h (fr.rf _ _ _)⟩
set_option maxHeartbeats 1000000 in
set_option maxRecDepth 100000 in
theorem k_rewriteN {w : Wd} {B ns tn : Nat} {σ tx : Nat → Int32} {k : Bool} (h : CR w B σ ns k tx tn) (c a b : Nat) (hc : c < 10) (ha : a < 8) (hb : b < 3) : Wr mX7_rewrite 6 [.ref B, .int (nI c), .int (nI a), .int (nI b)] w (CQ w B k tx tn (rewriteR σ ns tx tn (nI c) (nI a) (nI b))) := by
  intro sz
  refine Ev.ofV [some (.ref B), some (.int (nI c)), some (.int (nI a)), some (.int (nI b)), none, none] (by decide) (Nat.le_of_ble_eq_true rfl) rfl rfl rfl ?_
  have h00 := h
  obtain ⟨nx, hh, gk, hX, hG⟩ := h00
  have hXb := hX
  obtain ⟨x1, x2, ⟨f0, n0, x3⟩, x4, x5, x6, R0, x7⟩ := hXb
  have htn := x2.2.2
  have hgc : inB (nI c) 9 = true := by rw [inB_nI (by omega) (by omega)]; simp; omega
  have hga : inB (nI a) 7 = true := by rw [inB_nI (by omega) (by omega)]; simp; omega
  have hgb : inB (nI b) 2 = true := by rw [inB_nI (by omega) (by omega)]; simp; omega
  have hgg : (inB (nI c) 9 && (inB (nI a) 7 && inB (nI b) 2)) = true := by rw [hgc, hga, hgb]; rfl
  refine v_iload_n dX7_rewrite_0 rfl ?_
  refine u_rS1 oX7_isVisitor dX7_rewrite_1 ml_X7_128 (c_isVisitor (nI c)) (by decide) (Nat.le_of_ble_eq_true rfl) (Nat.le_refl _) (Nat.le_refl _) ?_
  refine v_if_eqB (tgt := 21) dX7_rewrite_4 (by decide) (fun b4 => ?_) (fun b4 => ?_)
  ·
    exact absurd hgc (by rw [b4]; decide)
  ·
    refine v_iload_n dX7_rewrite_7 rfl ?_
    refine u_rS1 oX7_isWork dX7_rewrite_8 ml_X7_79 (c_isWork (nI a)) (by decide) (Nat.le_of_ble_eq_true rfl) (Nat.le_refl _) (Nat.le_refl _) ?_
    refine v_if_eqB (tgt := 21) dX7_rewrite_11 (by decide) (fun b11 => ?_) (fun b11 => ?_)
    ·
      exact absurd hga (by rw [b11]; decide)
    ·
      refine v_iload_n dX7_rewrite_14 rfl ?_
      refine u_rS1 oX7_isTongue dX7_rewrite_15 ml_X7_63 (c_isTongue (nI b)) (by decide) (Nat.le_of_ble_eq_true rfl) (Nat.le_refl _) (Nat.le_refl _) ?_
      refine v_if_neB (tgt := 23) dX7_rewrite_18 (by decide) (fun b18 => ?_) (fun b18 => ?_)
      ·
        refine v_aload_n dX7_rewrite_23 rfl ?_
        refine v_iload_n dX7_rewrite_24 rfl ?_
        refine v_wV1 oX7_readTextFor dX7_rewrite_25 ml_X7_88 (c_readTextFor h a ha) x1 (by decide) (Nat.le_of_ble_eq_true rfl) (Nat.le_refl _) (Nat.le_refl _) (fun r' w1 hq => ?_)
        rcases hq with ⟨q1, ql, rfl, q3, q4, q5, q6⟩ | ⟨q1, ql, rfl, q5, q6⟩ | ⟨q1, rfl, rfl⟩
        · have hU := q5
          obtain ⟨nu_, hu_, gu_, uX, uG⟩ := hU
          have uXb := uX
          obtain ⟨u1, u2, -, u4, u5, u6, Ru, u7⟩ := uXb
          have u4b := u4
          obtain ⟨uB, ⟨n, π, κ, hRR⟩, hW, hI, hO⟩ := u4b
          have uBb := uB
          obtain ⟨c1, ⟨liu, c2, c2b⟩, ⟨aku, c3, c3b⟩, ⟨rou, c4, c4b⟩, ⟨acu, c5, c5b⟩, ⟨lfu, c6, c6b⟩, c7⟩ := uBb
          obtain ⟨vi, hl, hv⟩ := c7 (3 * a + b) (by omega)
          have hnw : nw tx tn = 1 + cnt (bl tx) tn := by
            unfold nw
            rw [if_pos q3.1]
          refine v_istore dX7_rewrite_28 (by decide) rfl ?_
          refine v_iload dX7_rewrite_30 rfl ?_
          refine v_if_eqN (tgt := 38) dX7_rewrite_32 (by decide) (by decide) (fun _ => ?_) (fun z => absurd z (by decide))
          refine v_iload_n dX7_rewrite_38 rfl ?_
          refine v_iload_n dX7_rewrite_39 rfl ?_
          refine u_rS2 oX7_placeOf dX7_rewrite_40 ml_X7_95 (c_place7 a b) (by decide) (Nat.le_of_ble_eq_true rfl) (Nat.le_refl _) (Nat.le_refl _) ?_
          refine v_istore dX7_rewrite_43 (by decide) rfl ?_
          refine v_aload_n dX7_rewrite_45 rfl ?_
          refine v_get 2 dX7_rewrite_46 FTX7 (by decide) rfl fl_X7_26 u1 rfl ?_
          refine v_get 4 dX7_rewrite_49 FTX4 (by decide) rfl fl_X7_91 c1 rfl ?_
          refine v_iload dX7_rewrite_52 rfl ?_
          refine v_aald _ (by decide) dX7_rewrite_54 c6 rfl (by omega) (by decide) (c6b (3 * a + b) (by omega)) ?_
          refine v_get 0 dX7_rewrite_55 FTX1 (by decide) rfl fl_X7_98 hl.1 rfl ?_
          refine v_aload_n dX7_rewrite_58 rfl ?_
          refine v_get 1 dX7_rewrite_59 FTX7 (by decide) rfl fl_X7_19 u1 rfl ?_
          refine u_rV1 oX6_isLike dX7_rewrite_62 ml_X7_103 (c_isLike hl.2 q4) hl.2.at (by decide) (Nat.le_of_ble_eq_true rfl) (Nat.le_refl _) (Nat.le_refl _) ?_
          refine v_if_eqB (tgt := 71) dX7_rewrite_65 (by decide) (fun b65 => ?_) (fun b65 => ?_)
          ·
            have eR : rewriteR σ ns tx tn (nI c) (nI a) (nI b) = rwtR σ ns tx tn c (3 * a + b) := by
              unfold rewriteR
              rw [if_pos hgg, if_pos q1, nt_nI (n := a) (by omega), nt_nI (n := b) (by omega), nt_nI (n := c) (by omega), if_pos ql, if_neg (show ¬ told (sft σ (272 + 64 * (3 * a + b) + 4)) tx (ln σ (3 * a + b)) tn = true by rw [show told (sft σ (272 + 64 * (3 * a + b) + 4)) tx (ln σ (3 * a + b)) tn = false from b65]; decide)]
            rw [eR]
            have hKu := hRR.2.1
            have h18u := hW.2.2.2.2.1
            have h18v := h18u.2
            have hp24 : (3 * a + b) < 24 := by omega
            cases hbf : befO σ c (3 * a + b) with
            | none =>
              have hnx2 := bef_none hbf hKu
              refine v_aload_n dX7_rewrite_71 rfl ?_
              refine v_get 2 dX7_rewrite_72 FTX7 (by decide) rfl fl_X7_26 u1 rfl ?_
              refine v_get 5 dX7_rewrite_75 FTX4 (by decide) rfl fl_X7_131 c1 rfl ?_
              refine v_iload_n dX7_rewrite_78 rfl ?_
              refine v_iload dX7_rewrite_79 rfl ?_
              refine u_rV2 oX3_hasRoomFor dX7_rewrite_81 ml_X7_135 (c_roomN hRR h18u (nI c) (nI (3 * a + b)) hnx2) hRR.1.choose_spec.1 (by decide) (Nat.le_of_ble_eq_true rfl) (Nat.le_refl _) (Nat.le_refl _) ?_
              refine v_if_neB (tgt := 90) dX7_rewrite_84 (by decide) (fun b84 => ?_) (fun b84 => ?_)
              ·
                have b84 := b84
                rw [Bool.and_eq_true, decide_eq_true_eq, decide_eq_true_eq] at b84
                have hn16 := b84.1
                obtain ⟨kf, hkf0⟩ := (free_iff hKu).1 hn16
                have hkf := dnO_some hkf0
                have hkn : ¬ 0 ≤ σ (1808 + 65 * kf) := by
                  have := hkf.2
                  unfold freP at this
                  exact Int32.not_le.mpr (of_decide_eq_true this)
                refine v_aload_n dX7_rewrite_90 rfl ?_
                refine v_get 3 dX7_rewrite_91 FTX7 (by decide) rfl fl_X7_33 u1 rfl ?_
                refine v_aload_n dX7_rewrite_94 rfl ?_
                refine v_get 2 dX7_rewrite_95 FTX7 (by decide) rfl fl_X7_26 u1 rfl ?_
                refine v_wV1 oX0_push dX7_rewrite_98 ml_X7_55 (c_push u5 u4 (by omega)) u5.1.choose_spec.1 (by decide) (Nat.le_of_ble_eq_true rfl) (Nat.le_refl _) (Nat.le_refl _) (fun r' w2 hq2 => ?_)
                obtain ⟨rfl, p1, p2⟩ := hq2
                have hC := CR_push uX uG p1 p2
                have hCb := hC
                obtain ⟨ny, hy, gy, ⟨y1, y2, ⟨f1, m1, y3⟩, y4, y5, y6, R1, y7⟩, hGy⟩ := hCb
                have y4b := y4
                obtain ⟨hBy, -, hWy, hIy, hOy⟩ := y4b
                have hByb := hBy
                obtain ⟨t1, ⟨liy, t2, t2b⟩, ⟨aky, t3, t3b⟩, ⟨roy, t4, t4b⟩, ⟨acy, t5, t5b⟩, ⟨lfy, t6, t6b⟩, t7⟩ := hByb
                have f1w : fr B 1017 w w2 := (q6.mono (by omega) (by omega)).tr (p2.mono (by omega) (by omega))
                have q4y := q4.fr (w' := w2) (fun q h1 h2 => p2 q (by omega))
                have hRR2 : RR w2 (B + 6 + 6) (rcS σ ns) n π κ := (hRR.fr (fun q h1 h2 => p2 q (by omega))).congr hW (fun q hq _ => rcS_0 hq)
                have e18 : rcS σ ns 18 = σ 18 := rcS_0 (by omega)
                have hi0 : ∀ q, q < 2848 → rcS σ ns q = σ q := fun q hq => rcS_0 hq
                refine v_aload_n dX7_rewrite_101 rfl ?_
                refine v_get 2 dX7_rewrite_102 FTX7 (by decide) rfl fl_X7_26 y1 rfl ?_
                refine v_get 5 dX7_rewrite_105 FTX4 (by decide) rfl fl_X7_131 t1 rfl ?_
                refine v_iload_n dX7_rewrite_108 rfl ?_
                refine v_iload dX7_rewrite_109 rfl ?_
                refine v_aload_n dX7_rewrite_111 rfl ?_
                refine v_get 1 dX7_rewrite_112 FTX7 (by decide) rfl fl_X7_19 y1 rfl ?_
                refine v_wV3 oX3_handIn dX7_rewrite_115 ml_X7_140 (c_handN hRR2 hWy hIy q4y (by omega) hp24 hc hn16 hkf.1 (by rw [hi0 _ (by omega)]; exact hkn) (fun i hi => by rw [hi0 _ (by have := (hKu.2.1 i hi).1; omega), hi0 _ (by have := (hKu.2.1 i hi).1; omega)]; exact hnx2 i hi)) hRR2.1.choose_spec.1 (by decide) (Nat.le_of_ble_eq_true rfl) (Nat.le_refl _) (Nat.le_refl _) (fun r' w3 hq3 => ?_)
                obtain ⟨rfl, n3, π3, κ3, k3, k4⟩ := hq3
                rw [e18] at k3
                rw [e18]
                have hfr : ¬ 0 ≤ rcS σ ns (1808 + 65 * kf) := by rw [hi0 _ (by omega)]; exact hkn
                have hWS := WS_rwtS (tx := tx) (tn := tn) hWy hkf.1 hp24 hc htn q3 (by rw [e18]; omega)
                rw [e18] at hWS
                have hOW : OW (rwtS (rcS σ ns) kf (3 * a + b) c (σ 18) tx tn) := OW_rwtS hOy hkf.1 htn (fun j hj hjk h0 => by
                  rw [hi0 _ (by omega)] at h0 ⊢
                  rw [hi0 _ (by omega)]
                  obtain ⟨i, hi, ei⟩ := hKu.2.2.2 j hj h0
                  have := hnx2 i hi
                  rw [ei] at this
                  exact fun z => this ⟨z.2, z.1⟩)
                have q7 := SR_rw y4 k3 k4 hWS (VI_rwtS hIy hkf.1 htn hfr) hOW (fun q hq => rwt_out (by omega) (by omega) htn)
                refine v_iret dX7_rewrite_118 rfl (Nat.le_refl _) (Nat.le_refl _) ?_
                have e : rwtR σ ns tx tn c (3 * a + b) = (σ 18, rcn ns, rwtS (rcS σ ns) kf (3 * a + b) c (σ 18) tx tn) := by
                  unfold rwtR
                  rw [if_neg (fun z => by rw [z, nt_nI (by omega)] at b84; omega), hbf, hkf0]
                rw [e]
                exact ⟨rfl, CQ.mk (CR_st hC q7 (k4.mono (by omega) (by omega)) (fun q hq => rwt_out (by omega) (by omega) htn)) (f1w.tr (k4.mono (by omega) (by omega)))⟩
              ·
                refine v_bipush (v := -3) dX7_rewrite_87 (by decide) ?_
                refine v_iret dX7_rewrite_89 rfl (Nat.le_refl _) (Nat.le_refl _) ?_
                have e : rwtR σ ns tx tn c (3 * a + b) = (-3, ns, σ) := by
                  unfold rwtR
                  by_cases z : σ 18 = nI 200
                  · rw [if_pos z]
                  · rw [if_neg z, hbf]
                    have hn : ¬ n < 16 := fun y => by
                      rw [decide_eq_true y, Bool.true_and, decide_eq_false_iff_not] at b84
                      have : nt (σ 18) = 200 := by omega
                      rw [← this, ← h18u.1] at z
                      exact z rfl
                    rw [(free_iff hKu).2 hn]
                rw [e]
                exact ⟨rfl, CQ.mk q5 (q6.mono (by omega) (by omega))⟩
            | some kb =>
              obtain ⟨hb1, hb2, hb3, j, hj, ekj⟩ := bef_some hbf hKu
              rw [← ekj] at hb3
              have hmj := hb3
              have hkj := hKu.2.1 j hj
              have hmu : ∀ i, i < n → (σ (1808 + 65 * κ i + 2) = nI c ∧ σ (1808 + 65 * κ i + 1) = nI (3 * a + b)) → i = j := fun i hi z => by
                have hki := hKu.2.1 i hi
                have := hO (κ i) (κ j) hki.1 hkj.1 hki.2 hkj.2 (z.2.trans hmj.2.symm) (z.1.trans hmj.1.symm)
                exact hKu.inj hi hj (by rw [this])
              refine v_aload_n dX7_rewrite_71 rfl ?_
              refine v_get 2 dX7_rewrite_72 FTX7 (by decide) rfl fl_X7_26 u1 rfl ?_
              refine v_get 5 dX7_rewrite_75 FTX4 (by decide) rfl fl_X7_131 c1 rfl ?_
              refine v_iload_n dX7_rewrite_78 rfl ?_
              refine v_iload dX7_rewrite_79 rfl ?_
              refine u_rV2 oX3_hasRoomFor dX7_rewrite_81 ml_X7_135 (c_roomS hRR h18u (nI c) (nI (3 * a + b)) j hj hmj hmu) hRR.1.choose_spec.1 (by decide) (Nat.le_of_ble_eq_true rfl) (Nat.le_refl _) (Nat.le_refl _) ?_
              refine v_if_neB (tgt := 90) dX7_rewrite_84 (by decide) (fun b84 => ?_) (fun b84 => ?_)
              ·
                have c84 := of_decide_eq_true b84
                refine v_aload_n dX7_rewrite_90 rfl ?_
                refine v_get 3 dX7_rewrite_91 FTX7 (by decide) rfl fl_X7_33 u1 rfl ?_
                refine v_aload_n dX7_rewrite_94 rfl ?_
                refine v_get 2 dX7_rewrite_95 FTX7 (by decide) rfl fl_X7_26 u1 rfl ?_
                refine v_wV1 oX0_push dX7_rewrite_98 ml_X7_55 (c_push u5 u4 (by omega)) u5.1.choose_spec.1 (by decide) (Nat.le_of_ble_eq_true rfl) (Nat.le_refl _) (Nat.le_refl _) (fun r' w2 hq2 => ?_)
                obtain ⟨rfl, p1, p2⟩ := hq2
                have hC := CR_push uX uG p1 p2
                have hCb := hC
                obtain ⟨ny, hy, gy, ⟨y1, y2, ⟨f1, m1, y3⟩, y4, y5, y6, R1, y7⟩, hGy⟩ := hCb
                have y4b := y4
                obtain ⟨hBy, -, hWy, hIy, hOy⟩ := y4b
                have hByb := hBy
                obtain ⟨t1, ⟨liy, t2, t2b⟩, ⟨aky, t3, t3b⟩, ⟨roy, t4, t4b⟩, ⟨acy, t5, t5b⟩, ⟨lfy, t6, t6b⟩, t7⟩ := hByb
                have f1w : fr B 1017 w w2 := (q6.mono (by omega) (by omega)).tr (p2.mono (by omega) (by omega))
                have q4y := q4.fr (w' := w2) (fun q h1 h2 => p2 q (by omega))
                have hRR2 : RR w2 (B + 6 + 6) (rcS σ ns) n π κ := (hRR.fr (fun q h1 h2 => p2 q (by omega))).congr hW (fun q hq _ => rcS_0 hq)
                have e18 : rcS σ ns 18 = σ 18 := rcS_0 (by omega)
                have hi0 : ∀ q, q < 2848 → rcS σ ns q = σ q := fun q hq => rcS_0 hq
                refine v_aload_n dX7_rewrite_101 rfl ?_
                refine v_get 2 dX7_rewrite_102 FTX7 (by decide) rfl fl_X7_26 y1 rfl ?_
                refine v_get 5 dX7_rewrite_105 FTX4 (by decide) rfl fl_X7_131 t1 rfl ?_
                refine v_iload_n dX7_rewrite_108 rfl ?_
                refine v_iload dX7_rewrite_109 rfl ?_
                refine v_aload_n dX7_rewrite_111 rfl ?_
                refine v_get 1 dX7_rewrite_112 FTX7 (by decide) rfl fl_X7_19 y1 rfl ?_
                refine v_wV3 oX3_handIn dX7_rewrite_115 ml_X7_140 (c_handS (k := 0) hRR2 hWy hIy q4y (by omega) hp24 hc j hj (by rw [hi0 _ (by omega), hi0 _ (by omega)]; exact hmj) (fun i hi => by rw [hi0 _ (by have := (hKu.2.1 i hi).1; omega), hi0 _ (by have := (hKu.2.1 i hi).1; omega)]; exact hmu i hi)) hRR2.1.choose_spec.1 (by decide) (Nat.le_of_ble_eq_true rfl) (Nat.le_refl _) (Nat.le_refl _) (fun r' w3 hq3 => ?_)
                obtain ⟨rfl, n3, π3, κ3, k3, k4⟩ := hq3
                rw [e18] at k3
                rw [e18]
                have g18 : gone (rcS σ ns) (κ j) 18 = σ 18 := (gone_out (by omega) (by omega)).trans e18
                have hfr : ¬ 0 ≤ gone (rcS σ ns) (κ j) (1808 + 65 * κ j) := by rw [gone_k]; decide
                have hWS := WS_rwtS (tx := tx) (tn := tn) (WS_gone hWy hkj.1) hkj.1 hp24 hc htn q3 (by rw [g18]; omega)
                rw [g18] at hWS
                have hOW : OW (rwtS (gone (rcS σ ns) (κ j)) (κ j) (3 * a + b) c (σ 18) tx tn) := OW_rwtS (OW_gone hOy hkj.1) hkj.1 htn (fun i hi hik h0 z => by
                  rw [gone_out (by omega) (by omega), hi0 _ (by omega)] at h0
                  rw [gone_out (by omega) (by omega), gone_out (by omega) (by omega), hi0 _ (by omega), hi0 _ (by omega)] at z
                  exact hik (hO i (κ j) hi hkj.1 h0 hkj.2 (z.1.trans hmj.2.symm) (z.2.trans hmj.1.symm)))
                have q7 := SR_rw y4 k3 k4 hWS (VI_rwtS (VI_gone hIy hkj.1) hkj.1 htn hfr) hOW (fun q hq => (rwt_out (by omega) (by omega) htn).trans (gone_out (by omega) (by omega)))
                refine v_iret dX7_rewrite_118 rfl (Nat.le_refl _) (Nat.le_refl _) ?_
                have e : rwtR σ ns tx tn c (3 * a + b) = (σ 18, rcn ns, rwtS (gone (rcS σ ns) (κ j)) (κ j) (3 * a + b) c (σ 18) tx tn) := by
                  unfold rwtR
                  rw [if_neg (fun z => by rw [z, nt_nI (by omega)] at c84; omega), hbf, ← ekj]
                rw [e]
                exact ⟨rfl, CQ.mk (CR_st hC q7 (k4.mono (by omega) (by omega)) (fun q hq => (rwt_out (by omega) (by omega) htn).trans (gone_out (by omega) (by omega)))) (f1w.tr (k4.mono (by omega) (by omega)))⟩
              ·
                have c84 := of_decide_eq_false b84
                refine v_bipush (v := -3) dX7_rewrite_87 (by decide) ?_
                refine v_iret dX7_rewrite_89 rfl (Nat.le_refl _) (Nat.le_refl _) ?_
                have e : rwtR σ ns tx tn c (3 * a + b) = (-3, ns, σ) := by
                  unfold rwtR
                  have z : σ 18 = nI 200 := by
                    rw [h18u.1]
                    congr 1
                    omega
                  rw [if_pos z]
                rw [e]
                exact ⟨rfl, CQ.mk q5 (q6.mono (by omega) (by omega))⟩
          ·
            refine v_bipush (v := -4) dX7_rewrite_68 (by decide) ?_
            refine v_iret dX7_rewrite_70 rfl (Nat.le_refl _) (Nat.le_refl _) ?_
            have e : rewriteR σ ns tx tn (nI c) (nI a) (nI b) = (-4, ns, σ) := by
              unfold rewriteR
              rw [if_pos hgg, if_pos q1, nt_nI (n := a) (by omega), nt_nI (n := b) (by omega), nt_nI (n := c) (by omega), if_pos ql, if_pos (show told (sft σ (272 + 64 * (3 * a + b) + 4)) tx (ln σ (3 * a + b)) tn = true from b65)]
            rw [e]
            exact ⟨rfl, CQ.mk q5 (q6.mono (by omega) (by omega))⟩
        ·
          refine v_istore dX7_rewrite_28 (by decide) rfl ?_
          refine v_iload dX7_rewrite_30 rfl ?_
          refine v_if_eq (tgt := 38) dX7_rewrite_32 (by decide) (fun b32 => ?_) (fun b32 => ?_)
          ·
            exact absurd b32 (by decide)
          ·
            refine v_iload dX7_rewrite_35 rfl ?_
            refine v_iret dX7_rewrite_37 rfl (Nat.le_refl _) (Nat.le_refl _) ?_
            have e : rewriteR σ ns tx tn (nI c) (nI a) (nI b) = (-6, ns, σ) := by
              unfold rewriteR
              rw [if_pos hgg, if_pos q1, nt_nI (n := a) (by omega), nt_nI (n := b) (by omega), nt_nI (n := c) (by omega), if_neg ql]
            rw [e]
            exact ⟨rfl, CQ.mk q5 (q6.mono (by omega) (by omega))⟩
        ·
          refine v_istore dX7_rewrite_28 (by decide) rfl ?_
          refine v_iload dX7_rewrite_30 rfl ?_
          refine v_if_eq (tgt := 38) dX7_rewrite_32 (by decide) (fun b32 => ?_) (fun b32 => ?_)
          ·
            exact absurd b32 (err_ne x2.2.2 q1)
          ·
            refine v_iload dX7_rewrite_35 rfl ?_
            refine v_iret dX7_rewrite_37 rfl (Nat.le_refl _) (Nat.le_refl _) ?_
            have e : rewriteR σ ns tx tn (nI c) (nI a) (nI b) = (-100 - flt tx tn, ns, σ) := by
              unfold rewriteR
              rw [if_pos hgg, if_neg q1]
            rw [e]
            exact ⟨rfl, CQ.mk h (fr.rf _ _ _)⟩
      ·
        exact absurd hgb (by rw [b18]; decide)
theorem k_rewrite {w : Wd} {B ns tn : Nat} {σ tx : Nat → Int32} {k : Bool} (h : CR w B σ ns k tx tn) (v x y : Int32) : Wr mX7_rewrite 6 [.ref B, .int v, .int x, .int y] w (CQ w B k tx tn (rewriteR σ ns tx tn v x y)) := by
  by_cases hg : (inB v 9 && (inB x 7 && inB y 2)) = false
  · exact k_rewrite_no h v x y hg
  have h2 := bfalse hg
  simp only [Bool.and_eq_true] at h2
  have hv := inB_ub (by omega) h2.1
  have hx := inB_ub (by omega) h2.2.1
  have hy := inB_ub (by omega) h2.2.2
  rw [hv.1, hx.1, hy.1]
  exact k_rewriteN h (nt v) (nt x) (nt y) hv.2 hx.2 hy.2
