set_option maxHeartbeats 2000000 in
set_option maxRecDepth 100000 in
theorem c_place7 {w : Wd} (a b : Nat) : Rd mX7_placeOf 0 [.int (nI a), .int (nI b)] w (some (.int (nI (3 * a + b)))) := by
  intro sz
  refine Ev.ofV [some (.int (nI a)), some (.int (nI b))] (by decide) (Nat.le_of_ble_eq_true rfl) rfl rfl rfl ?_
  refine v_iload_n dX7_placeOf_0 rfl ?_
  refine v_iconst (v := nI 3) dX7_placeOf_1 (by decide) ?_
  refine v_imulN dX7_placeOf_2 ?_
  refine v_iload_n dX7_placeOf_3 rfl ?_
  refine v_iaddN dX7_placeOf_4 ?_
  refine v_iret dX7_placeOf_5 rfl (Nat.le_refl _) (Nat.le_refl _) ?_
  exact ⟨by rw [Nat.mul_comm a 3], rfl, rfl⟩
set_option maxHeartbeats 2000000 in
set_option maxRecDepth 100000 in
theorem c_limitOf {w : Wd} {S : Nat} {g : Nat → Int32} (h : SR w S g) (a : Nat) (ha : a < 8) : Rd mX4_limitOf 0 [.ref S, .int (nI a)] w (some (.int (nI (limW g a)))) := by
  intro sz
  refine Ev.ofV [some (.ref S), some (.int (nI a))] (by decide) (Nat.le_of_ble_eq_true rfl) rfl rfl rfl ?_
  have h0 := h
  obtain ⟨hB, ⟨n, π, κ, hRR⟩, hW, hI, hO⟩ := h0
  obtain ⟨s1, ⟨li, s2, s2b⟩, ⟨ak, s3, s3b⟩, ⟨ro, s4, s4b⟩, ⟨ac, s5, s5b⟩, ⟨lf, s6, s6b⟩, s7⟩ := hB
  have hRb := hRR
  obtain ⟨⟨F, r1, r2, r3⟩, hK, hP, hS, hR⟩ := hRb
  have hra := (hW.1 a ha).2
  have hlm : g (12 + nt (g a)) = nI (limW g a) := (hW.2.2.1 _ hra).1.1
  refine v_aload_n dX4_limitOf_0 rfl ?_
  refine v_get 0 dX4_limitOf_1 FTX4 (by decide) rfl fl_X4_9 s1 rfl ?_
  refine v_aload_n dX4_limitOf_4 rfl ?_
  refine v_get 2 dX4_limitOf_5 FTX4 (by decide) rfl fl_X4_18 s1 rfl ?_
  refine v_iload_n dX4_limitOf_8 rfl ?_
  refine v_ialdN _ dX4_limitOf_9 s4 rfl (by omega) (by decide) ((s4b a ha).trans (hW.1 a ha).1) ?_
  refine v_ialdN _ dX4_limitOf_10 s2 rfl (by omega) (by decide) ((s2b _ hra).trans hlm) ?_
  refine v_iret dX4_limitOf_11 rfl (Nat.le_refl _) (Nat.le_refl _) ?_
  exact ⟨rfl, rfl, rfl⟩
set_option maxHeartbeats 2000000 in
set_option maxRecDepth 100000 in
theorem c_asksFor {w : Wd} {S : Nat} {g : Nat → Int32} (h : SR w S g) (r b : Nat) (hr : r < 4) (hb : b < 3) : Rd mX4_asksFor 0 [.ref S, .int (nI r), .int (nI b)] w (some (.int (b2i (askB g r b)))) := by
  intro sz
  refine Ev.ofV [some (.ref S), some (.int (nI r)), some (.int (nI b))] (by decide) (Nat.le_of_ble_eq_true rfl) rfl rfl rfl ?_
  have h0 := h
  obtain ⟨hB, ⟨n, π, κ, hRR⟩, hW, hI, hO⟩ := h0
  obtain ⟨s1, ⟨li, s2, s2b⟩, ⟨ak, s3, s3b⟩, ⟨ro, s4, s4b⟩, ⟨ac, s5, s5b⟩, ⟨lf, s6, s6b⟩, s7⟩ := hB
  have hRb := hRR
  obtain ⟨⟨F, r1, r2, r3⟩, hK, hP, hS, hR⟩ := hRb
  have hm := hW.2.1 r hr
  have key : (g (8 + r) &&& (nI 1 <<< (nI b &&& 31))) = 0 ↔ askB g r b = false := by
    unfold askB
    rw [hm.1]
    exact ask_ok hm.2 hb
  refine v_aload_n dX4_asksFor_0 rfl ?_
  refine v_get 1 dX4_asksFor_1 FTX4 (by decide) rfl fl_X4_15 s1 rfl ?_
  refine v_iload_n dX4_asksFor_4 rfl ?_
  refine v_ialdE _ dX4_asksFor_5 s3 rfl (by omega) (by decide) (s3b r hr) ?_
  refine v_iconst (v := nI 1) dX4_asksFor_6 (by decide) ?_
  refine v_iload_n dX4_asksFor_7 rfl ?_
  refine v_ishl dX4_asksFor_8 ?_
  refine v_iand dX4_asksFor_9 ?_
  refine v_if_eq (tgt := 17) dX4_asksFor_10 (by decide) (fun b10 => ?_) (fun b10 => ?_)
  ·
    refine v_iconst (v := nI 0) dX4_asksFor_17 (by decide) ?_
    refine v_zret dX4_asksFor_18 rfl (by decide) (Nat.le_refl _) (Nat.le_refl _) ?_
    exact ⟨by rw [key.mp b10]; rfl, rfl, rfl⟩
  ·
    refine v_iconst (v := nI 1) dX4_asksFor_13 (by decide) ?_
    refine v_goto (tgt := 18) dX4_asksFor_14 (by decide) ?_
    refine v_zret dX4_asksFor_18 rfl (by decide) (Nat.le_refl _) (Nat.le_refl _) ?_
    exact ⟨by rw [bfalse (fun z => b10 (key.mpr z))]; rfl, rfl, rfl⟩
set_option maxHeartbeats 2000000 in
set_option maxRecDepth 100000 in
theorem c_worksIn {w : Wd} {S : Nat} {g : Nat → Int32} (h : SR w S g) (x : Int32) : Rd mX4_worksIn 0 [.ref S, .int x] w (some (.int (nI (cnt (fun a => g a == x) 8)))) := by
  intro sz
  refine Ev.ofV [some (.ref S), some (.int x), none, none] (by decide) (Nat.le_of_ble_eq_true rfl) rfl rfl rfl ?_
  have h0 := h
  obtain ⟨hB, ⟨n, π, κ, hRR⟩, hW, hI, hO⟩ := h0
  obtain ⟨s1, ⟨li, s2, s2b⟩, ⟨ak, s3, s3b⟩, ⟨ro, s4, s4b⟩, ⟨ac, s5, s5b⟩, ⟨lf, s6, s6b⟩, s7⟩ := hB
  have hRb := hRR
  obtain ⟨⟨F, r1, r2, r3⟩, hK, hP, hS, hR⟩ := hRb
  refine v_iconst (v := nI 0) dX4_worksIn_0 (by decide) ?_
  refine v_istore_n dX4_worksIn_1 (by decide) rfl ?_
  refine v_iconst (v := nI 0) dX4_worksIn_2 (by decide) ?_
  refine v_istore_n dX4_worksIn_3 (by decide) rfl ?_
  have LP4 : ∀ i, i ≤ 8 → V mX4_worksIn 0 0 0 (fun r' w' zz => r' = some (.int (nI (cnt (fun a => g a == x) 8))) ∧ w' = w ∧ zz = sz) (w) (sz) (0) (0) [some (.ref S), some (.int x), some (.int (nI (cnt (fun a => g a == x) i))), some (.int (nI i))] [] 4 := by
    refine dn (fun i hi ih => ?_)
    refine v_iload_n dX4_worksIn_4 rfl ?_
    refine v_bipush (v := nI 8) dX4_worksIn_5 (by decide) ?_
    refine v_icmp_geN (tgt := 29) dX4_worksIn_7 (by decide) (by omega) (by omega) (fun b7 => ?_) (fun b7 => ?_)
    ·
      have e1 : i = 8 := by omega
      subst e1
      refine v_iload_n dX4_worksIn_29 rfl ?_
      refine v_iret dX4_worksIn_30 rfl (Nat.le_refl _) (Nat.le_refl _) ?_
      exact ⟨rfl, rfl, rfl⟩
    ·
      refine v_aload_n dX4_worksIn_10 rfl ?_
      refine v_get 2 dX4_worksIn_11 FTX4 (by decide) rfl fl_X4_18 s1 rfl ?_
      refine v_iload_n dX4_worksIn_14 rfl ?_
      refine v_ialdE _ dX4_worksIn_15 s4 rfl (by omega) (by decide) (s4b i (by omega)) ?_
      refine v_iload_n dX4_worksIn_16 rfl ?_
      refine v_icmp_ne (tgt := 23) dX4_worksIn_17 (by decide) (fun b17 => ?_) (fun b17 => ?_)
      ·
        refine v_iincN dX4_worksIn_23 (by decide) rfl rfl rfl ?_
        refine v_goto (tgt := 4) dX4_worksIn_26 (by decide) ?_
        refine v_eqL ?_ (ih (by omega))
        simp [st, cnt, b17]
      ·
        refine v_iincN dX4_worksIn_20 (by decide) rfl rfl rfl ?_
        refine v_iincN dX4_worksIn_23 (by decide) rfl rfl rfl ?_
        refine v_goto (tgt := 4) dX4_worksIn_26 (by decide) ?_
        refine v_eqL ?_ (ih (by omega))
        simp [st, cnt, b17]
  exact LP4 0 (Nat.zero_le _)
set_option maxHeartbeats 2000000 in
set_option maxRecDepth 100000 in
theorem c_allLabels {w : Wd} {S : Nat} {g : Nat → Int32} (h : SR w S g) : Rd mX4_allLabels 1 [.ref S] w (some (.int (nI (lbs g)))) := by
  intro sz
  refine Ev.ofV [some (.ref S), none, none] (by decide) (Nat.le_of_ble_eq_true rfl) rfl rfl rfl ?_
  have h0 := h
  obtain ⟨hB, ⟨n, π, κ, hRR⟩, hW, hI, hO⟩ := h0
  obtain ⟨s1, ⟨li, s2, s2b⟩, ⟨ak, s3, s3b⟩, ⟨ro, s4, s4b⟩, ⟨ac, s5, s5b⟩, ⟨lf, s6, s6b⟩, s7⟩ := hB
  have hRb := hRR
  obtain ⟨⟨F, r1, r2, r3⟩, hK, hP, hS, hR⟩ := hRb
  refine v_iconst (v := nI 0) dX4_allLabels_0 (by decide) ?_
  refine v_istore_n dX4_allLabels_1 (by decide) rfl ?_
  refine v_iconst (v := nI 0) dX4_allLabels_2 (by decide) ?_
  refine v_istore_n dX4_allLabels_3 (by decide) rfl ?_
  have LP4 : ∀ i, i ≤ 24 → V mX4_allLabels 1 0 0 (fun r' w' zz => r' = some (.int (nI (lbs g))) ∧ w' = w ∧ zz = sz) (w) (sz) (0) (0) [some (.ref S), some (.int (nI (cnt (fun p => decide (0 < ln g p)) i))), some (.int (nI i))] [] 4 := by
    refine dn (fun i hi ih => ?_)
    refine v_iload_n dX4_allLabels_4 rfl ?_
    refine v_bipush (v := nI 24) dX4_allLabels_5 (by decide) ?_
    refine v_icmp_geN (tgt := 31) dX4_allLabels_7 (by decide) (by omega) (by omega) (fun b7 => ?_) (fun b7 => ?_)
    ·
      have e1 : i = 24 := by omega
      subst e1
      refine v_iload_n dX4_allLabels_31 rfl ?_
      refine v_iret dX4_allLabels_32 rfl (Nat.le_refl _) (Nat.le_refl _) ?_
      exact ⟨rfl, rfl, rfl⟩
    ·
      obtain ⟨vi, hl, hv⟩ := s7 (i) (by omega)
      refine v_aload_n dX4_allLabels_10 rfl ?_
      refine v_get 4 dX4_allLabels_11 FTX4 (by decide) rfl fl_X4_26 s1 rfl ?_
      refine v_iload_n dX4_allLabels_14 rfl ?_
      refine v_aald _ (by decide) dX4_allLabels_15 s6 rfl (by omega) (by decide) (s6b (i) (by omega)) ?_
      refine u_rV0 oX1_stands dX4_allLabels_16 ml_X4_123 (c_stands hl) hl.1 (by decide) (Nat.le_of_ble_eq_true rfl) (Nat.le_refl _) (Nat.le_refl _) ?_
      refine v_if_eqB (tgt := 25) dX4_allLabels_19 (by decide) (fun b19 => ?_) (fun b19 => ?_)
      ·
        have b19 := of_decide_eq_false b19
        refine v_iincN dX4_allLabels_25 (by decide) rfl rfl rfl ?_
        refine v_goto (tgt := 4) dX4_allLabels_28 (by decide) ?_
        refine v_eqL ?_ (ih (by omega))
        simp [st, cnt, ln, b19]
      ·
        have b19 := of_decide_eq_true b19
        refine v_iincN dX4_allLabels_22 (by decide) rfl rfl rfl ?_
        refine v_iincN dX4_allLabels_25 (by decide) rfl rfl rfl ?_
        refine v_goto (tgt := 4) dX4_allLabels_28 (by decide) ?_
        refine v_eqL ?_ (ih (by omega))
        simp [st, cnt, ln, b19]
  exact LP4 0 (Nat.zero_le _)
theorem lvis_iff {g : Nat → Int32} {p : Nat} {x : Int32} (hx : 0 ≤ x) : lvis g p = x ↔ g (272 + 64 * p + 1) = x := by
  unfold lvis
  by_cases h : g (272 + 64 * p + 1) < 0
  · rw [if_pos h]
    constructor
    · intro e
      rw [← e] at hx
      exact absurd hx (by decide)
    · intro e
      rw [e] at h
      exact absurd hx (Int32.not_le.mpr h)
  · rw [if_neg h]
set_option maxHeartbeats 2000000 in
set_option maxRecDepth 100000 in
theorem c_labelsBy {w : Wd} {S : Nat} {g : Nat → Int32} (h : SR w S g) (x : Int32) (hx : 0 ≤ x) : Rd mX4_labelsBy 1 [.ref S, .int x] w (some (.int (nI (cnt (fun p => decide (0 < ln g p) && g (272 + 64 * p + 1) == x) 24)))) := by
  intro sz
  refine Ev.ofV [some (.ref S), some (.int x), none, none] (by decide) (Nat.le_of_ble_eq_true rfl) rfl rfl rfl ?_
  have h0 := h
  obtain ⟨hB, ⟨n, π, κ, hRR⟩, hW, hI, hO⟩ := h0
  obtain ⟨s1, ⟨li, s2, s2b⟩, ⟨ak, s3, s3b⟩, ⟨ro, s4, s4b⟩, ⟨ac, s5, s5b⟩, ⟨lf, s6, s6b⟩, s7⟩ := hB
  have hRb := hRR
  obtain ⟨⟨F, r1, r2, r3⟩, hK, hP, hS, hR⟩ := hRb
  refine v_iconst (v := nI 0) dX4_labelsBy_0 (by decide) ?_
  refine v_istore_n dX4_labelsBy_1 (by decide) rfl ?_
  refine v_iconst (v := nI 0) dX4_labelsBy_2 (by decide) ?_
  refine v_istore_n dX4_labelsBy_3 (by decide) rfl ?_
  have LP4 : ∀ i, i ≤ 24 → V mX4_labelsBy 1 0 0 (fun r' w' zz => r' = some (.int (nI (cnt (fun p => decide (0 < ln g p) && g (272 + 64 * p + 1) == x) 24))) ∧ w' = w ∧ zz = sz) (w) (sz) (0) (0) [some (.ref S), some (.int x), some (.int (nI (cnt (fun p => decide (0 < ln g p) && g (272 + 64 * p + 1) == x) i))), some (.int (nI i))] [] 4 := by
    refine dn (fun i hi ih => ?_)
    refine v_iload_n dX4_labelsBy_4 rfl ?_
    refine v_bipush (v := nI 24) dX4_labelsBy_5 (by decide) ?_
    refine v_icmp_geN (tgt := 44) dX4_labelsBy_7 (by decide) (by omega) (by omega) (fun b7 => ?_) (fun b7 => ?_)
    ·
      have e1 : i = 24 := by omega
      subst e1
      refine v_iload_n dX4_labelsBy_44 rfl ?_
      refine v_iret dX4_labelsBy_45 rfl (Nat.le_refl _) (Nat.le_refl _) ?_
      exact ⟨rfl, rfl, rfl⟩
    ·
      obtain ⟨vi, hl, hv⟩ := s7 (i) (by omega)
      refine v_aload_n dX4_labelsBy_10 rfl ?_
      refine v_get 4 dX4_labelsBy_11 FTX4 (by decide) rfl fl_X4_26 s1 rfl ?_
      refine v_iload_n dX4_labelsBy_14 rfl ?_
      refine v_aald _ (by decide) dX4_labelsBy_15 s6 rfl (by omega) (by decide) (s6b (i) (by omega)) ?_
      refine u_rV0 oX1_stands dX4_labelsBy_16 ml_X4_123 (c_stands hl) hl.1 (by decide) (Nat.le_of_ble_eq_true rfl) (Nat.le_refl _) (Nat.le_refl _) ?_
      refine v_if_eqB (tgt := 38) dX4_labelsBy_19 (by decide) (fun b19 => ?_) (fun b19 => ?_)
      ·
        have c19 := of_decide_eq_false b19
        refine v_iincN dX4_labelsBy_38 (by decide) rfl rfl rfl ?_
        refine v_goto (tgt := 4) dX4_labelsBy_41 (by decide) ?_
        refine v_eqL ?_ (ih (by omega))
        simp [st, cnt, ln, c19]
      ·
        have c19 := of_decide_eq_true b19
        have hvi := hv c19
        subst hvi
        refine v_aload_n dX4_labelsBy_22 rfl ?_
        refine v_get 4 dX4_labelsBy_23 FTX4 (by decide) rfl fl_X4_26 s1 rfl ?_
        refine v_iload_n dX4_labelsBy_26 rfl ?_
        refine v_aald _ (by decide) dX4_labelsBy_27 s6 rfl (by omega) (by decide) (s6b (i) (by omega)) ?_
        refine v_get 1 dX4_labelsBy_28 FTX1 (by decide) rfl fl_X4_127 hl.1 rfl ?_
        refine v_iload_n dX4_labelsBy_31 rfl ?_
        refine v_icmp_ne (tgt := 38) dX4_labelsBy_32 (by decide) (fun b32 => ?_) (fun b32 => ?_)
        ·
          have c32 : ¬ g (272 + 64 * i + 1) = x := fun z => b32 ((lvis_iff hx).mpr z)
          refine v_iincN dX4_labelsBy_38 (by decide) rfl rfl rfl ?_
          refine v_goto (tgt := 4) dX4_labelsBy_41 (by decide) ?_
          refine v_eqL ?_ (ih (by omega))
          simp [st, cnt, c32]
        ·
          have c32 : g (272 + 64 * i + 1) = x := (lvis_iff hx).mp b32
          refine v_iincN dX4_labelsBy_35 (by decide) rfl rfl rfl ?_
          refine v_iincN dX4_labelsBy_38 (by decide) rfl rfl rfl ?_
          refine v_goto (tgt := 4) dX4_labelsBy_41 (by decide) ?_
          refine v_eqL ?_ (ih (by omega))
          simp [st, cnt, ln, c19, c32]
  exact LP4 0 (Nat.zero_le _)
set_option maxHeartbeats 2000000 in
set_option maxRecDepth 100000 in
theorem c_labelsSharing {w : Wd} {S : Nat} {g : Nat → Int32} (h : SR w S g) {W tn : Nat} {tx : Nat → Int32} (hx : WO w W tx tn) (hok : okT tx tn) (b : Nat) (hb : b < 3) : Rd mX4_labelsSharing 2 [.ref S, .int (nI b), .ref W] w (some (.int (nI (cnt (lwB g tx tn b) 8)))) := by
  intro sz
  refine Ev.ofV [some (.ref S), some (.int (nI b)), some (.ref W), none, none] (by decide) (Nat.le_of_ble_eq_true rfl) rfl rfl rfl ?_
  have h0 := h
  obtain ⟨hB, ⟨n, π, κ, hRR⟩, hW, hI, hO⟩ := h0
  obtain ⟨s1, ⟨li, s2, s2b⟩, ⟨ak, s3, s3b⟩, ⟨ro, s4, s4b⟩, ⟨ac, s5, s5b⟩, ⟨lf, s6, s6b⟩, s7⟩ := hB
  have hRb := hRR
  obtain ⟨⟨F, r1, r2, r3⟩, hK, hP, hS, hR⟩ := hRb
  refine v_iconst (v := nI 0) dX4_labelsSharing_0 (by decide) ?_
  refine v_istore_n dX4_labelsSharing_1 (by decide) rfl ?_
  refine v_iconst (v := nI 0) dX4_labelsSharing_2 (by decide) ?_
  refine v_istore dX4_labelsSharing_3 (by decide) rfl ?_
  have LP5 : ∀ i, i ≤ 8 → V mX4_labelsSharing 2 0 0 (fun r' w' zz => r' = some (.int (nI (cnt (lwB g tx tn b) 8))) ∧ w' = w ∧ zz = sz) (w) (sz) (0) (0) [some (.ref S), some (.int (nI b)), some (.ref W), some (.int (nI (cnt (lwB g tx tn b) i))), some (.int (nI i))] [] 5 := by
    refine dn (fun i hi ih => ?_)
    refine v_iload dX4_labelsSharing_5 rfl ?_
    refine v_bipush (v := nI 8) dX4_labelsSharing_7 (by decide) ?_
    refine v_icmp_geN (tgt := 42) dX4_labelsSharing_9 (by decide) (by omega) (by omega) (fun b9 => ?_) (fun b9 => ?_)
    ·
      have e1 : i = 8 := by omega
      subst e1
      refine v_iload_n dX4_labelsSharing_42 rfl ?_
      refine v_iret dX4_labelsSharing_43 rfl (Nat.le_refl _) (Nat.le_refl _) ?_
      exact ⟨rfl, rfl, rfl⟩
    ·
      obtain ⟨vi, hl, hv⟩ := s7 (3 * i + b) (by omega)
      refine v_aload_n dX4_labelsSharing_12 rfl ?_
      refine v_get 4 dX4_labelsSharing_13 FTX4 (by decide) rfl fl_X4_26 s1 rfl ?_
      refine v_iload dX4_labelsSharing_16 rfl ?_
      refine v_iload_n dX4_labelsSharing_18 rfl ?_
      refine u_rSN2 oX7_placeOf dX4_labelsSharing_19 (by decide) (c_place7 i b) (by decide) (Nat.le_of_ble_eq_true rfl) (Nat.le_refl _) (Nat.le_refl _) ?_
      refine v_aald _ (by decide) dX4_labelsSharing_22 s6 rfl (by omega) (by decide) (s6b (3 * i + b) (by omega)) ?_
      refine v_get 0 dX4_labelsSharing_23 FTX1 (by decide) rfl fl_X4_128 hl.1 rfl ?_
      refine v_aload_n dX4_labelsSharing_26 rfl ?_
      refine u_rV1 oX6_sharesWordWith dX4_labelsSharing_27 ml_X4_129 (c_sharesWordWith hl.2 hx hok) hl.2.at (by decide) (Nat.le_of_ble_eq_true rfl) (Nat.le_refl _) (Nat.le_refl _) ?_
      refine v_if_eqB (tgt := 36) dX4_labelsSharing_30 (by decide) (fun b30 => ?_) (fun b30 => ?_)
      ·
        have c30 : lwB g tx tn b i = false := b30
        refine v_iincN dX4_labelsSharing_36 (by decide) rfl rfl rfl ?_
        refine v_goto (tgt := 5) dX4_labelsSharing_39 (by decide) ?_
        refine v_eqL ?_ (ih (by omega))
        simp [st, cnt, c30]
      ·
        have c30 : lwB g tx tn b i = true := b30
        refine v_iincN dX4_labelsSharing_33 (by decide) rfl rfl rfl ?_
        refine v_iincN dX4_labelsSharing_36 (by decide) rfl rfl rfl ?_
        refine v_goto (tgt := 5) dX4_labelsSharing_39 (by decide) ?_
        refine v_eqL ?_ (ih (by omega))
        simp [st, cnt, c30]
  exact LP5 0 (Nat.zero_le _)
set_option maxHeartbeats 2000000 in
set_option maxRecDepth 100000 in
theorem c_labelsIn {w : Wd} {S : Nat} {g : Nat → Int32} (h : SR w S g) (r : Nat) (hr : r < 4) (t : Bool) : Rd mX4_labelsIn 1 [.ref S, .int (nI r), .int (b2i t)] w (some (.int (nI (cnt (fun p => (g (p / 3) == nI r) && ((askB g r (p % 3) == t) && decide (0 < ln g p))) 24)))) := by
  intro sz
  refine Ev.ofV [some (.ref S), some (.int (nI r)), some (.int (b2i t)), none, none, none, none] (by decide) (Nat.le_of_ble_eq_true rfl) rfl rfl rfl ?_
  have h0 := h
  obtain ⟨hB, ⟨n, π, κ, hRR⟩, hW, hI, hO⟩ := h0
  obtain ⟨s1, ⟨li, s2, s2b⟩, ⟨ak, s3, s3b⟩, ⟨ro, s4, s4b⟩, ⟨ac, s5, s5b⟩, ⟨lf, s6, s6b⟩, s7⟩ := hB
  have hRb := hRR
  obtain ⟨⟨F, r1, r2, r3⟩, hK, hP, hS, hR⟩ := hRb
  refine v_iconst (v := nI 0) dX4_labelsIn_0 (by decide) ?_
  refine v_istore_n dX4_labelsIn_1 (by decide) rfl ?_
  refine v_iconst (v := nI 0) dX4_labelsIn_2 (by decide) ?_
  refine v_istore dX4_labelsIn_3 (by decide) rfl ?_
  have LP5 : ∀ i, i ≤ 24 → V mX4_labelsIn 1 0 0 (fun r' w' zz => r' = some (.int (nI (cnt (fun p => (g (p / 3) == nI r) && ((askB g r (p % 3) == t) && decide (0 < ln g p))) 24))) ∧ w' = w ∧ zz = sz) (w) (sz) (0) (0) [some (.ref S), some (.int (nI r)), some (.int (b2i t)), some (.int (nI (cnt (fun p => (g (p / 3) == nI r) && ((askB g r (p % 3) == t) && decide (0 < ln g p))) i))), some (.int (nI i)), none, none] [] 5 := by
    refine dn (fun i hi ih => ?_)
    refine v_iload dX4_labelsIn_5 rfl ?_
    refine v_bipush (v := nI 24) dX4_labelsIn_7 (by decide) ?_
    refine v_icmp_geN (tgt := 84) dX4_labelsIn_9 (by decide) (by omega) (by omega) (fun b9 => ?_) (fun b9 => ?_)
    ·
      have e1 : i = 24 := by omega
      subst e1
      refine v_iload_n dX4_labelsIn_84 rfl ?_
      refine v_iret dX4_labelsIn_85 rfl (Nat.le_refl _) (Nat.le_refl _) ?_
      exact ⟨rfl, rfl, rfl⟩
    ·
      obtain ⟨vi, hl, hv⟩ := s7 (i) (by omega)
      have J30 : ∀ c : Bool, c = (g (i / 3) == nI r) → V mX4_labelsIn 1 0 0 (fun r' w' zz => r' = some (.int (nI (cnt (fun p => (g (p / 3) == nI r) && ((askB g r (p % 3) == t) && decide (0 < ln g p))) 24))) ∧ w' = w ∧ zz = sz) (w) (sz) (0) (0) [some (.ref S), some (.int (nI r)), some (.int (b2i t)), some (.int (nI (cnt (fun p => (g (p / 3) == nI r) && ((askB g r (p % 3) == t) && decide (0 < ln g p))) i))), some (.int (nI i)), none, none] [.int (b2i c)] 30 := by
        intro c hc
        refine v_istore dX4_labelsIn_30 (by decide) rfl ?_
        have J50 : ∀ d : Bool, d = (askB g r (i % 3) == t) → V mX4_labelsIn 1 0 0 (fun r' w' zz => r' = some (.int (nI (cnt (fun p => (g (p / 3) == nI r) && ((askB g r (p % 3) == t) && decide (0 < ln g p))) 24))) ∧ w' = w ∧ zz = sz) (w) (sz) (0) (0) [some (.ref S), some (.int (nI r)), some (.int (b2i t)), some (.int (nI (cnt (fun p => (g (p / 3) == nI r) && ((askB g r (p % 3) == t) && decide (0 < ln g p))) i))), some (.int (nI i)), some (.int (b2i c)), none] [.int (b2i d)] 50 := by
          intro d hd
          refine v_istore dX4_labelsIn_50 (by decide) rfl ?_
          refine v_iload dX4_labelsIn_52 rfl ?_
          refine v_if_eqB (tgt := 78) dX4_labelsIn_54 (by decide) (fun b54 => ?_) (fun b54 => ?_)
          ·
            refine v_iincN dX4_labelsIn_78 (by decide) rfl rfl rfl ?_
            refine v_goto (tgt := 5) dX4_labelsIn_81 (by decide) ?_
            refine v_drop 5 ?_
            refine v_drop 6 ?_
            refine v_eqL ?_ (ih (by omega))
            simp [st, dr, cnt, ← hc, b54]
          ·
            refine v_iload dX4_labelsIn_57 rfl ?_
            refine v_if_eqB (tgt := 78) dX4_labelsIn_59 (by decide) (fun b59 => ?_) (fun b59 => ?_)
            ·
              refine v_iincN dX4_labelsIn_78 (by decide) rfl rfl rfl ?_
              refine v_goto (tgt := 5) dX4_labelsIn_81 (by decide) ?_
              refine v_drop 5 ?_
              refine v_drop 6 ?_
              refine v_eqL ?_ (ih (by omega))
              simp [st, dr, cnt, ← hc, ← hd, b59]
            ·
              refine v_aload_n dX4_labelsIn_62 rfl ?_
              refine v_get 4 dX4_labelsIn_63 FTX4 (by decide) rfl fl_X4_26 s1 rfl ?_
              refine v_iload dX4_labelsIn_66 rfl ?_
              refine v_aald _ (by decide) dX4_labelsIn_68 s6 rfl (by omega) (by decide) (s6b (i) (by omega)) ?_
              refine u_rV0 oX1_stands dX4_labelsIn_69 ml_X4_123 (c_stands hl) hl.1 (by decide) (Nat.le_of_ble_eq_true rfl) (Nat.le_refl _) (Nat.le_refl _) ?_
              refine v_if_eqB (tgt := 78) dX4_labelsIn_72 (by decide) (fun b72 => ?_) (fun b72 => ?_)
              ·
                have c72 := of_decide_eq_false b72
                refine v_iincN dX4_labelsIn_78 (by decide) rfl rfl rfl ?_
                refine v_goto (tgt := 5) dX4_labelsIn_81 (by decide) ?_
                refine v_drop 5 ?_
                refine v_drop 6 ?_
                refine v_eqL ?_ (ih (by omega))
                simp [st, dr, cnt, ln, c72]
              ·
                have c72 := of_decide_eq_true b72
                refine v_iincN dX4_labelsIn_75 (by decide) rfl rfl rfl ?_
                refine v_iincN dX4_labelsIn_78 (by decide) rfl rfl rfl ?_
                refine v_goto (tgt := 5) dX4_labelsIn_81 (by decide) ?_
                refine v_drop 5 ?_
                refine v_drop 6 ?_
                refine v_eqL ?_ (ih (by omega))
                simp [st, dr, cnt, ← hc, ← hd, b54, b59, ln, c72]
        refine v_aload_n dX4_labelsIn_32 rfl ?_
        refine v_iload_n dX4_labelsIn_33 rfl ?_
        refine v_iload dX4_labelsIn_34 rfl ?_
        refine v_iconst (v := nI 3) dX4_labelsIn_36 (by decide) ?_
        refine v_irem dX4_labelsIn_37 (by decide) ?_
        rw [nI_mod3 (by omega)]
        refine u_rV2 oX4_asksFor dX4_labelsIn_38 ml_X4_135 (c_asksFor h r (i % 3) hr (by omega)) s1 (by decide) (Nat.le_of_ble_eq_true rfl) (Nat.le_refl _) (Nat.le_refl _) ?_
        refine v_iload_n dX4_labelsIn_41 rfl ?_
        refine v_icmp_ne (tgt := 49) dX4_labelsIn_42 (by decide) (fun b42 => ?_) (fun b42 => ?_)
        ·
          refine v_iconst (v := nI 0) dX4_labelsIn_49 (by decide) ?_
          exact J50 false (by
            cases e : (askB g r (i % 3) == t)
            · rfl
            · exact absurd (congrArg b2i (by simpa using e)) b42)
        ·
          refine v_iconst (v := nI 1) dX4_labelsIn_45 (by decide) ?_
          refine v_goto (tgt := 50) dX4_labelsIn_46 (by decide) ?_
          exact J50 true (by rw [b2i_inj b42]; simp)
      refine v_aload_n dX4_labelsIn_12 rfl ?_
      refine v_get 2 dX4_labelsIn_13 FTX4 (by decide) rfl fl_X4_18 s1 rfl ?_
      refine v_iload dX4_labelsIn_16 rfl ?_
      refine v_iconst (v := nI 3) dX4_labelsIn_18 (by decide) ?_
      refine v_idiv dX4_labelsIn_19 (by decide) ?_
      rw [nI_div3 (by omega)]
      refine v_ialdE _ dX4_labelsIn_20 s4 rfl (by omega) (by decide) (s4b (i / 3) (by omega)) ?_
      refine v_iload_n dX4_labelsIn_21 rfl ?_
      refine v_icmp_ne (tgt := 29) dX4_labelsIn_22 (by decide) (fun b22 => ?_) (fun b22 => ?_)
      ·
        refine v_iconst (v := nI 0) dX4_labelsIn_29 (by decide) ?_
        exact J30 false (by simpa using b22)
      ·
        refine v_iconst (v := nI 1) dX4_labelsIn_25 (by decide) ?_
        refine v_goto (tgt := 30) dX4_labelsIn_26 (by decide) ?_
        exact J30 true (by simp [b22])
  exact LP5 0 (Nat.zero_le _)
theorem bts_ok {g : Nat → Int32} (hW : WS g) {r : Nat} (hr : r < 4) : bcI (g (8 + r)) = nI (bts g r) := by
  have hm := hW.2.1 r hr
  have h8 := hm.2
  have e : bts g r = pcn (nt (g (8 + r))) := by
    rw [ask3 h8]
    unfold bts askB
    rw [← hm.1]
  rw [e, ← bc_ok (by omega), ← hm.1]
theorem lin_T (g : Nat → Int32) (r : Nat) : cnt (fun p => (g (p / 3) == nI r) && ((askB g r (p % 3) == true) && decide (0 < ln g p))) 24 = lbO g r 0 8 := by
  rw [lbO_eq (by decide)]
  refine cnt_congr (fun p hp => ?_)
  unfold lbP
  cases g (p / 3) == nI r <;> cases askB g r (p % 3) <;> cases decide (0 < ln g p) <;> rfl
theorem lin_F (g : Nat → Int32) (r : Nat) : cnt (fun p => (g (p / 3) == nI r) && ((askB g r (p % 3) == false) && decide (0 < ln g p))) 24 = lbO g r 2 8 := by
  rw [lbO_eq (by decide)]
  refine cnt_congr (fun p hp => ?_)
  unfold lbP
  cases g (p / 3) == nI r <;> cases askB g r (p % 3) <;> cases decide (0 < ln g p) <;> rfl
theorem mx_le {g : Nat → Int32} (h : ∀ p, p < 24 → nwl g p ≤ 61) (r : Nat) : ∀ i, i ≤ 24 → mxI g r i ≤ 61
  | 0, _ => Nat.zero_le _
  | i + 1, hi => by
    have a1 := mx_le h r i (by omega)
    have a2 := h i (by omega)
    rw [mxI]
    split
    · split <;> omega
    · exact a1
theorem rvO_ok (a : Nat) (π : Nat → Nat) (b : Option Nat) : rvO a π b = .null ∨ ∃ x, rvO a π b = .ref x := by
  cases b with
  | none => exact Or.inl rfl
  | some j => exact Or.inr ⟨_, rfl⟩
set_option maxHeartbeats 2000000 in
set_option maxRecDepth 100000 in
theorem c_missingIn {w : Wd} {S : Nat} {g : Nat → Int32} (h : SR w S g) (r : Nat) (hr : r < 4) : Rd mX4_missingIn 2 [.ref S, .int (nI r)] w (some (.int (nI (lbO g r 1 8)))) := by
  intro sz
  refine Ev.ofV [some (.ref S), some (.int (nI r))] (by decide) (Nat.le_of_ble_eq_true rfl) rfl rfl rfl ?_
  have h0 := h
  obtain ⟨hB, ⟨n, π, κ, hRR⟩, hW, hI, hO⟩ := h0
  obtain ⟨s1, ⟨li, s2, s2b⟩, ⟨ak, s3, s3b⟩, ⟨ro, s4, s4b⟩, ⟨ac, s5, s5b⟩, ⟨lf, s6, s6b⟩, s7⟩ := hB
  have hRb := hRR
  obtain ⟨⟨F, r1, r2, r3⟩, hK, hP, hS, hR⟩ := hRb
  have hm := miss_eq g r
  refine v_aload_n dX4_missingIn_0 rfl ?_
  refine v_iload_n dX4_missingIn_1 rfl ?_
  refine u_rV1 oX4_worksIn dX4_missingIn_2 ml_X4_139 (c_worksIn h (nI r)) s1 (by decide) (Nat.le_of_ble_eq_true rfl) (Nat.le_refl _) (Nat.le_refl _) ?_
  refine v_aload_n dX4_missingIn_5 rfl ?_
  refine v_get 1 dX4_missingIn_6 FTX4 (by decide) rfl fl_X4_15 s1 rfl ?_
  refine v_iload_n dX4_missingIn_9 rfl ?_
  refine v_ialdE _ dX4_missingIn_10 s3 rfl (by omega) (by decide) (s3b r hr) ?_
  refine u_rS1 oJ6_bitCount_0f7a4 dX4_missingIn_11 ml_X4_142 (by have := c_bitCount (w := w) (g (8 + r)); rw [bts_ok hW hr] at this; exact this) (by decide) (Nat.le_of_ble_eq_true rfl) (Nat.le_refl _) (Nat.le_refl _) ?_
  refine v_imulN dX4_missingIn_14 ?_
  refine v_aload_n dX4_missingIn_15 rfl ?_
  refine v_iload_n dX4_missingIn_16 rfl ?_
  refine v_iconst (v := nI 1) dX4_missingIn_17 (by decide) ?_
  refine u_rV2 oX4_labelsIn dX4_missingIn_18 ml_X4_147 (show Rd mX4_labelsIn 1 [.ref S, .int (nI r), .int (nI 1)] w (some (.int (nI (lbO g r 0 8)))) by rw [← lin_T g r]; exact c_labelsIn h r hr true) s1 (by decide) (Nat.le_of_ble_eq_true rfl) (Nat.le_refl _) (Nat.le_refl _) ?_
  refine v_isubN dX4_missingIn_21 (by omega) ?_
  refine v_iret dX4_missingIn_22 rfl (Nat.le_refl _) (Nat.le_refl _) ?_
  exact ⟨by rw [show cnt (fun a => g a == nI r) 8 * bts g r - lbO g r 0 8 = lbO g r 1 8 by omega], rfl, rfl⟩
set_option maxHeartbeats 2000000 in
set_option maxRecDepth 100000 in
theorem c_allMissing {w : Wd} {S : Nat} {g : Nat → Int32} (h : SR w S g) : Rd mX4_allMissing 3 [.ref S] w (some (.int (nI (lbO g 0 1 8 + lbO g 1 1 8 + lbO g 2 1 8 + lbO g 3 1 8)))) := by
  intro sz
  refine Ev.ofV [some (.ref S), none, none] (by decide) (Nat.le_of_ble_eq_true rfl) rfl rfl rfl ?_
  have h0 := h
  obtain ⟨hB, ⟨n, π, κ, hRR⟩, hW, hI, hO⟩ := h0
  obtain ⟨s1, ⟨li, s2, s2b⟩, ⟨ak, s3, s3b⟩, ⟨ro, s4, s4b⟩, ⟨ac, s5, s5b⟩, ⟨lf, s6, s6b⟩, s7⟩ := hB
  have hRb := hRR
  obtain ⟨⟨F, r1, r2, r3⟩, hK, hP, hS, hR⟩ := hRb
  refine v_iconst (v := nI 0) dX4_allMissing_0 (by decide) ?_
  refine v_istore_n dX4_allMissing_1 (by decide) rfl ?_
  refine v_iconst (v := nI 0) dX4_allMissing_2 (by decide) ?_
  refine v_istore_n dX4_allMissing_3 (by decide) rfl ?_
  have LP4 : ∀ i, i ≤ 4 → V mX4_allMissing 3 0 0 (fun r' w' zz => r' = some (.int (nI (lbO g 0 1 8 + lbO g 1 1 8 + lbO g 2 1 8 + lbO g 3 1 8))) ∧ w' = w ∧ zz = sz) (w) (sz) (0) (0) [some (.ref S), some (.int (nI (smN (fun r => lbO g r 1 8) i))), some (.int (nI i))] [] 4 := by
    refine dn (fun i hi ih => ?_)
    refine v_iload_n dX4_allMissing_4 rfl ?_
    refine v_iconst (v := nI 4) dX4_allMissing_5 (by decide) ?_
    refine v_icmp_geN (tgt := 23) dX4_allMissing_6 (by decide) (by omega) (by omega) (fun b6 => ?_) (fun b6 => ?_)
    ·
      have e1 : i = 4 := by omega
      subst e1
      refine v_iload_n dX4_allMissing_23 rfl ?_
      refine v_iret dX4_allMissing_24 rfl (Nat.le_refl _) (Nat.le_refl _) ?_
      exact ⟨by rw [show smN (fun r => lbO g r 1 8) 4 = lbO g 0 1 8 + lbO g 1 1 8 + lbO g 2 1 8 + lbO g 3 1 8 by simp [smN]], rfl, rfl⟩
    ·
      refine v_iload_n dX4_allMissing_9 rfl ?_
      refine v_aload_n dX4_allMissing_10 rfl ?_
      refine v_iload_n dX4_allMissing_11 rfl ?_
      refine u_rV1 oX4_missingIn dX4_allMissing_12 ml_X4_151 (c_missingIn h i (by omega)) s1 (by decide) (Nat.le_of_ble_eq_true rfl) (Nat.le_refl _) (Nat.le_refl _) ?_
      refine v_iaddN dX4_allMissing_15 ?_
      refine v_istore_n dX4_allMissing_16 (by decide) rfl ?_
      refine v_iincN dX4_allMissing_17 (by decide) rfl rfl rfl ?_
      refine v_goto (tgt := 4) dX4_allMissing_20 (by decide) ?_
      exact ih (by omega)
  exact LP4 0 (Nat.zero_le _)
set_option maxHeartbeats 2000000 in
set_option maxRecDepth 100000 in
theorem c_longestIn {w : Wd} {S : Nat} {g : Nat → Int32} (h : SR w S g) (r : Nat) (hr : r < 4) : Rd mX4_longestIn 1 [.ref S, .int (nI r)] w (some (.int (nI (lbO g r 3 8)))) := by
  intro sz
  refine Ev.ofV [some (.ref S), some (.int (nI r)), none, none] (by decide) (Nat.le_of_ble_eq_true rfl) rfl rfl rfl ?_
  have h0 := h
  obtain ⟨hB, ⟨n, π, κ, hRR⟩, hW, hI, hO⟩ := h0
  obtain ⟨s1, ⟨li, s2, s2b⟩, ⟨ak, s3, s3b⟩, ⟨ro, s4, s4b⟩, ⟨ac, s5, s5b⟩, ⟨lf, s6, s6b⟩, s7⟩ := hB
  have hRb := hRR
  obtain ⟨⟨F, r1, r2, r3⟩, hK, hP, hS, hR⟩ := hRb
  have hnl : ∀ p, p < 24 → nwl g p ≤ 61 := fun p hp => nwl_le (hW.2.2.2.2.2.1 p hp).1
  refine v_iconst (v := nI 0) dX4_longestIn_0 (by decide) ?_
  refine v_istore_n dX4_longestIn_1 (by decide) rfl ?_
  refine v_iconst (v := nI 0) dX4_longestIn_2 (by decide) ?_
  refine v_istore_n dX4_longestIn_3 (by decide) rfl ?_
  have LP4 : ∀ i, i ≤ 24 → V mX4_longestIn 1 0 0 (fun r' w' zz => r' = some (.int (nI (lbO g r 3 8))) ∧ w' = w ∧ zz = sz) (w) (sz) (0) (0) [some (.ref S), some (.int (nI r)), some (.int (nI (mxI g r i))), some (.int (nI i))] [] 4 := by
    refine dn (fun i hi ih => ?_)
    refine v_iload_n dX4_longestIn_4 rfl ?_
    refine v_bipush (v := nI 24) dX4_longestIn_5 (by decide) ?_
    refine v_icmp_geN (tgt := 45) dX4_longestIn_7 (by decide) (by omega) (by omega) (fun b7 => ?_) (fun b7 => ?_)
    ·
      have e1 : i = 24 := by omega
      subst e1
      refine v_iload_n dX4_longestIn_45 rfl ?_
      refine v_iret dX4_longestIn_46 rfl (Nat.le_refl _) (Nat.le_refl _) ?_
      exact ⟨by rw [mx_O], rfl, rfl⟩
    ·
      obtain ⟨vi, hl, hv⟩ := s7 (i) (by omega)
      have hsz := hl.2.sz
      have hmx := mx_le hnl r i hi
      refine v_aload_n dX4_longestIn_10 rfl ?_
      refine v_get 2 dX4_longestIn_11 FTX4 (by decide) rfl fl_X4_18 s1 rfl ?_
      refine v_iload_n dX4_longestIn_14 rfl ?_
      refine v_iconst (v := nI 3) dX4_longestIn_15 (by decide) ?_
      refine v_idiv dX4_longestIn_16 (by decide) ?_
      rw [nI_div3 (by omega)]
      refine v_ialdE _ dX4_longestIn_17 s4 rfl (by omega) (by decide) (s4b (i / 3) (by omega)) ?_
      refine v_iload_n dX4_longestIn_18 rfl ?_
      refine v_icmp_ne (tgt := 39) dX4_longestIn_19 (by decide) (fun b19 => ?_) (fun b19 => ?_)
      ·
        refine v_iincN dX4_longestIn_39 (by decide) rfl rfl rfl ?_
        refine v_goto (tgt := 4) dX4_longestIn_42 (by decide) ?_
        refine v_eqL ?_ (ih (by omega))
        rw [mxI, if_neg b19]
        rfl
      ·
        refine v_iload_n dX4_longestIn_22 rfl ?_
        refine v_aload_n dX4_longestIn_23 rfl ?_
        refine v_get 4 dX4_longestIn_24 FTX4 (by decide) rfl fl_X4_26 s1 rfl ?_
        refine v_iload_n dX4_longestIn_27 rfl ?_
        refine v_aald _ (by decide) dX4_longestIn_28 s6 rfl (by omega) (by decide) (s6b (i) (by omega)) ?_
        refine v_get 0 dX4_longestIn_29 FTX1 (by decide) rfl fl_X4_128 hl.1 rfl ?_
        refine v_get 3 dX4_longestIn_32 FTX6 (by decide) rfl fl_X4_154 hl.2.at rfl ?_
        refine v_mmaxN dX4_longestIn_35 ml_X4_157 (by decide) (Nat.le_of_ble_eq_true rfl) (Nat.le_refl _) (Nat.le_refl _) (by omega) (by omega) ?_
        refine v_istore_n dX4_longestIn_38 (by decide) rfl ?_
        refine v_iincN dX4_longestIn_39 (by decide) rfl rfl rfl ?_
        refine v_goto (tgt := 4) dX4_longestIn_42 (by decide) ?_
        refine v_eqL ?_ (ih (by omega))
        rw [mxI, if_pos b19]
        rfl
  exact LP4 0 (Nat.zero_le _)
set_option maxHeartbeats 2000000 in
set_option maxRecDepth 100000 in
theorem c_bestRewriteFor {w : Wd} {S n : Nat} {g : Nat → Int32} {π κ : Nat → Nat} (h : SR w S g) (hRR : RR w (S + 6) g n π κ) (p : Nat) (hp : p < 24) : Rd mX4_bestRewriteFor 4 [.ref S, .int (nI p)] w (some (rvO (S + 6) π (clB g κ p (nt (g 16)) (limW g (p / 3)) n))) := by
  intro sz
  refine Ev.ofV [some (.ref S), some (.int (nI p))] (by decide) (Nat.le_of_ble_eq_true rfl) rfl rfl rfl ?_
  have h0 := h
  obtain ⟨hB, -, hW, hI, hO⟩ := h0
  obtain ⟨s1, ⟨li, s2, s2b⟩, ⟨ak, s3, s3b⟩, ⟨ro, s4, s4b⟩, ⟨ac, s5, s5b⟩, ⟨lf, s6, s6b⟩, s7⟩ := hB
  have hRb := hRR
  obtain ⟨⟨F, r1, r2, r3⟩, hK, hP, hS, hR⟩ := hRb
  have h16 := hW.2.2.2.1.1
  have h16b := h16.2
  rw [h16.1] at s1
  have hra := (hW.1 (p / 3) (by omega)).2
  have hlm : limW g (p / 3) < 16 := (hW.2.2.1 _ hra).1.2
  refine v_aload_n dX4_bestRewriteFor_0 rfl ?_
  refine v_get 5 dX4_bestRewriteFor_1 FTX4 (by decide) rfl fl_X4_33 s1 rfl ?_
  refine v_iload_n dX4_bestRewriteFor_4 rfl ?_
  refine v_aload_n dX4_bestRewriteFor_5 rfl ?_
  refine v_get 6 dX4_bestRewriteFor_6 FTX4 (by decide) rfl fl_X4_37 s1 rfl ?_
  refine v_aload_n dX4_bestRewriteFor_9 rfl ?_
  refine v_iload_n dX4_bestRewriteFor_10 rfl ?_
  refine v_iconst (v := nI 3) dX4_bestRewriteFor_11 (by decide) ?_
  refine v_idiv dX4_bestRewriteFor_12 (by decide) ?_
  rw [nI_div3 (by omega)]
  refine u_rV1 oX4_limitOf dX4_bestRewriteFor_13 ml_X4_77 (c_limitOf h (p / 3) (by omega)) s1 (by decide) (Nat.le_of_ble_eq_true rfl) (Nat.le_refl _) (Nat.le_refl _) ?_
  refine u_rV3 oX3_bestFor dX4_bestRewriteFor_16 ml_X4_88 (c_bestFor hRR hW hI p (nt (g 16)) (limW g (p / 3)) hp (by omega) (by omega)) r1 (by decide) (Nat.le_of_ble_eq_true rfl) (Nat.le_refl _) (Nat.le_refl _) ?_
  refine v_aret dX4_bestRewriteFor_19 rfl (rvO_ok _ _ _) (Nat.le_refl _) (Nat.le_refl _) ?_
  exact ⟨rfl, rfl, rfl⟩
