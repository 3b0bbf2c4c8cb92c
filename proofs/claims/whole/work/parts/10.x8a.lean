set_option maxHeartbeats 4000000 in
set_option maxRecDepth 100000 in
theorem c_in {w : Wd} (x a b : Int32) : Rd mX8_in 0 [.int x, .int a, .int b] w (some (.int (if a ≤ x ∧ x ≤ b then nI 1 else nI 0))) := by
  intro sz
  refine Ev.ofV [some (.int x), some (.int a), some (.int b)] (by decide) (Nat.le_of_ble_eq_true rfl) rfl rfl rfl ?_
  refine v_iload_n dX8_in_0 rfl ?_
  refine v_iload_n dX8_in_1 rfl ?_
  refine v_icmp_lt (tgt := 14) dX8_in_2 (by decide) (fun b2 => ?_) (fun b2 => ?_)
  ·
    have q : ¬ (a ≤ x ∧ x ≤ b) := fun h => Int32.not_lt.mpr h.1 b2
    refine v_iconst (v := nI 0) dX8_in_14 (by decide) ?_
    refine v_zret dX8_in_15 rfl (by decide) (Nat.le_refl _) (Nat.le_refl _) ?_
    exact ⟨by simp [q], rfl, rfl⟩
  ·
    refine v_iload_n dX8_in_5 rfl ?_
    refine v_iload_n dX8_in_6 rfl ?_
    refine v_icmp_gt (tgt := 14) dX8_in_7 (by decide) (fun b7 => ?_) (fun b7 => ?_)
    ·
      have q : ¬ (a ≤ x ∧ x ≤ b) := fun h => Int32.not_lt.mpr h.2 b7
      refine v_iconst (v := nI 0) dX8_in_14 (by decide) ?_
      refine v_zret dX8_in_15 rfl (by decide) (Nat.le_refl _) (Nat.le_refl _) ?_
      exact ⟨by simp [q], rfl, rfl⟩
    ·
      have q : a ≤ x ∧ x ≤ b := ⟨Int32.not_lt.mp b2, Int32.not_lt.mp b7⟩
      refine v_iconst (v := nI 1) dX8_in_10 (by decide) ?_
      refine v_goto (tgt := 15) dX8_in_11 (by decide) ?_
      refine v_zret dX8_in_15 rfl (by decide) (Nat.le_refl _) (Nat.le_refl _) ?_
      exact ⟨by simp [q], rfl, rfl⟩
set_option maxHeartbeats 4000000 in
set_option maxRecDepth 100000 in
theorem c_rowOf {w : Wd} (a b : Nat) : Rd mX8_rowOf 0 [.int (nI a), .int (nI b)] w (some (.int (nI (272 + 64 * (3 * a + b))))) := by
  intro sz
  refine Ev.ofV [some (.int (nI a)), some (.int (nI b))] (by decide) (Nat.le_of_ble_eq_true rfl) rfl rfl rfl ?_
  refine v_sipush (v := nI 272) dX8_rowOf_0 (by decide) ?_
  refine v_bipush (v := nI 64) dX8_rowOf_3 (by decide) ?_
  refine v_iconst (v := nI 3) dX8_rowOf_5 (by decide) ?_
  refine v_iload_n dX8_rowOf_6 rfl ?_
  refine v_imulN dX8_rowOf_7 ?_
  refine v_iload_n dX8_rowOf_8 rfl ?_
  refine v_iaddN dX8_rowOf_9 ?_
  refine v_imulN dX8_rowOf_10 ?_
  refine v_iaddN dX8_rowOf_11 ?_
  refine v_iret dX8_rowOf_12 rfl (Nat.le_refl _) (Nat.le_refl _) ?_
  exact ⟨rfl, rfl, rfl⟩
set_option maxHeartbeats 4000000 in
set_option maxRecDepth 100000 in
theorem c_paper {w : Wd} (a : Nat) : Rd mX8_paper 0 [.int (nI a)] w (some (.int (nI (1808 + 65 * a)))) := by
  intro sz
  refine Ev.ofV [some (.int (nI a))] (by decide) (Nat.le_of_ble_eq_true rfl) rfl rfl rfl ?_
  refine v_sipush (v := nI 1808) dX8_paper_0 (by decide) ?_
  refine v_bipush (v := nI 65) dX8_paper_3 (by decide) ?_
  refine v_iload_n dX8_paper_5 rfl ?_
  refine v_imulN dX8_paper_6 ?_
  refine v_iaddN dX8_paper_7 ?_
  refine v_iret dX8_paper_8 rfl (Nat.le_refl _) (Nat.le_refl _) ?_
  exact ⟨rfl, rfl, rfl⟩
set_option maxHeartbeats 4000000 in
set_option maxRecDepth 100000 in
theorem c_words {w : Wd} {o ns tn : Nat} {kp : Int32} {σ tx cm : Nat → Int32} (hM : MW w o ns tn kp σ tx cm) (a n : Nat) (h : a + n ≤ 17088) : Rd mX8_words 0 [.ref o, .int (nI a), .int (nI n)] w (some (.int (nI (nw (sft σ a) n)))) := by
  intro sz
  refine Ev.ofV [some (.ref o), some (.int (nI a)), some (.int (nI n)), none, none] (by decide) (Nat.le_of_ble_eq_true rfl) rfl rfl rfl ?_
  refine v_iload_n dX8_words_0 rfl ?_
  refine v_if_leN (tgt := 8) dX8_words_1 (by decide) (by omega) (fun b1 => ?_) (fun b1 => ?_)
  ·
    refine v_iconst (v := nI 0) dX8_words_8 (by decide) ?_
    refine v_istore_n dX8_words_9 (by decide) rfl ?_
    refine v_iconst (v := nI 0) dX8_words_10 (by decide) ?_
    refine v_istore dX8_words_11 (by decide) rfl ?_
    have LP13 : ∀ i, i ≤ n → V mX8_words 0 0 0 (fun r' w' z => r' = some (.int (nI (nw (sft σ a) n))) ∧ w' = w ∧ z = sz) (w) (sz) (0) (0) [some (.ref o), some (.int (nI a)), some (.int (nI n)), some (.int (nI ((if 0 < n then 1 else 0) + cnt (bl (sft σ a)) i))), some (.int (nI i))] [] 13 := by
      refine dn (fun i hi ih => ?_)
      refine v_iload dX8_words_13 rfl ?_
      refine v_iload_n dX8_words_15 rfl ?_
      refine v_icmp_geN (tgt := 47) dX8_words_16 (by decide) (by omega) (by omega) (fun b16 => ?_) (fun b16 => ?_)
      ·
        refine v_iload_n dX8_words_47 rfl ?_
        refine v_iret dX8_words_48 rfl (Nat.le_refl _) (Nat.le_refl _) ?_
        have ei : i = n := by omega
        subst ei
        exact ⟨rfl, rfl, rfl⟩
      ·
        refine v_iload_n dX8_words_19 rfl ?_
        refine v_aload_n dX8_words_20 rfl ?_
        refine v_get 0 dX8_words_21 FTX8 (by decide) rfl fl_X8_7 hM.1 rfl ?_
        refine v_iload_n dX8_words_24 rfl ?_
        refine v_iload dX8_words_25 rfl ?_
        refine v_iaddN dX8_words_27 ?_
        refine v_iald _ dX8_words_28 hM.2.1 rfl (by omega) (by decide) ?_
        refine v_bipush (v := nI 32) dX8_words_29 (by decide) ?_
        refine v_icmp_ne (tgt := 38) dX8_words_31 (by decide) (fun b31 => ?_) (fun b31 => ?_)
        ·
          refine v_iconst (v := nI 0) dX8_words_38 (by decide) ?_
          refine v_iaddN dX8_words_39 ?_
          refine v_istore_n dX8_words_40 (by decide) rfl ?_
          refine v_iincN dX8_words_41 (by decide) rfl rfl rfl ?_
          refine v_goto (tgt := 13) dX8_words_44 (by decide) ?_
          refine v_eqL ?_ (ih (by omega))
          simp [st, cnt, Nat.add_assoc, bl, sft, b31]
        ·
          refine v_iconst (v := nI 1) dX8_words_34 (by decide) ?_
          refine v_goto (tgt := 39) dX8_words_35 (by decide) ?_
          refine v_iaddN dX8_words_39 ?_
          refine v_istore_n dX8_words_40 (by decide) rfl ?_
          refine v_iincN dX8_words_41 (by decide) rfl rfl rfl ?_
          refine v_goto (tgt := 13) dX8_words_44 (by decide) ?_
          refine v_eqL ?_ (ih (by omega))
          simp [st, cnt, Nat.add_assoc, bl, sft, b31]
    refine v_eqL ?_ (LP13 0 (Nat.zero_le _))
    simp [st, cnt, b1]
  ·
    refine v_iconst (v := nI 1) dX8_words_4 (by decide) ?_
    refine v_goto (tgt := 9) dX8_words_5 (by decide) ?_
    refine v_istore_n dX8_words_9 (by decide) rfl ?_
    refine v_iconst (v := nI 0) dX8_words_10 (by decide) ?_
    refine v_istore dX8_words_11 (by decide) rfl ?_
    have LP13 : ∀ i, i ≤ n → V mX8_words 0 0 0 (fun r' w' z => r' = some (.int (nI (nw (sft σ a) n))) ∧ w' = w ∧ z = sz) (w) (sz) (0) (0) [some (.ref o), some (.int (nI a)), some (.int (nI n)), some (.int (nI ((if 0 < n then 1 else 0) + cnt (bl (sft σ a)) i))), some (.int (nI i))] [] 13 := by
      refine dn (fun i hi ih => ?_)
      refine v_iload dX8_words_13 rfl ?_
      refine v_iload_n dX8_words_15 rfl ?_
      refine v_icmp_geN (tgt := 47) dX8_words_16 (by decide) (by omega) (by omega) (fun b16 => ?_) (fun b16 => ?_)
      ·
        refine v_iload_n dX8_words_47 rfl ?_
        refine v_iret dX8_words_48 rfl (Nat.le_refl _) (Nat.le_refl _) ?_
        have ei : i = n := by omega
        subst ei
        exact ⟨rfl, rfl, rfl⟩
      ·
        refine v_iload_n dX8_words_19 rfl ?_
        refine v_aload_n dX8_words_20 rfl ?_
        refine v_get 0 dX8_words_21 FTX8 (by decide) rfl fl_X8_7 hM.1 rfl ?_
        refine v_iload_n dX8_words_24 rfl ?_
        refine v_iload dX8_words_25 rfl ?_
        refine v_iaddN dX8_words_27 ?_
        refine v_iald _ dX8_words_28 hM.2.1 rfl (by omega) (by decide) ?_
        refine v_bipush (v := nI 32) dX8_words_29 (by decide) ?_
        refine v_icmp_ne (tgt := 38) dX8_words_31 (by decide) (fun b31 => ?_) (fun b31 => ?_)
        ·
          refine v_iconst (v := nI 0) dX8_words_38 (by decide) ?_
          refine v_iaddN dX8_words_39 ?_
          refine v_istore_n dX8_words_40 (by decide) rfl ?_
          refine v_iincN dX8_words_41 (by decide) rfl rfl rfl ?_
          refine v_goto (tgt := 13) dX8_words_44 (by decide) ?_
          refine v_eqL ?_ (ih (by omega))
          simp [st, cnt, Nat.add_assoc, bl, sft, b31]
        ·
          refine v_iconst (v := nI 1) dX8_words_34 (by decide) ?_
          refine v_goto (tgt := 39) dX8_words_35 (by decide) ?_
          refine v_iaddN dX8_words_39 ?_
          refine v_istore_n dX8_words_40 (by decide) rfl ?_
          refine v_iincN dX8_words_41 (by decide) rfl rfl rfl ?_
          refine v_goto (tgt := 13) dX8_words_44 (by decide) ?_
          refine v_eqL ?_ (ih (by omega))
          simp [st, cnt, Nat.add_assoc, bl, sft, b31]
    refine v_eqL ?_ (LP13 0 (Nat.zero_le _))
    simp [st, cnt, b1]
set_option maxHeartbeats 4000000 in
set_option maxRecDepth 100000 in
theorem c_votesFor {w : Wd} {o ns tn : Nat} {kp : Int32} {σ tx cm : Nat → Int32} (hM : MW w o ns tn kp σ tx cm) (x : Int32) : Rd mX8_votesFor 0 [.ref o, .int x] w (some (.int (nI (cnt (fun k => σ (32 + k) == x) 240)))) := by
  intro sz
  refine Ev.ofV [some (.ref o), some (.int x), none, none] (by decide) (Nat.le_of_ble_eq_true rfl) rfl rfl rfl ?_
  refine v_iconst (v := nI 0) dX8_votesFor_0 (by decide) ?_
  refine v_istore_n dX8_votesFor_1 (by decide) rfl ?_
  refine v_bipush (v := nI 32) dX8_votesFor_2 (by decide) ?_
  refine v_istore_n dX8_votesFor_4 (by decide) rfl ?_
  have LP5 : ∀ i, i ≤ 240 → V mX8_votesFor 0 0 0 (fun r' w' z => r' = some (.int (nI (cnt (fun k => σ (32 + k) == x) 240))) ∧ w' = w ∧ z = sz) (w) (sz) (0) (0) [some (.ref o), some (.int x), some (.int (nI (cnt (fun k => σ (32 + k) == x) i))), some (.int (nI (32 + i)))] [] 5 := by
    refine dn (fun i hi ih => ?_)
    refine v_iload_n dX8_votesFor_5 rfl ?_
    refine v_sipush (v := nI 272) dX8_votesFor_6 (by decide) ?_
    refine v_icmp_geN (tgt := 36) dX8_votesFor_9 (by decide) (by omega) (by omega) (fun b9 => ?_) (fun b9 => ?_)
    ·
      refine v_iload_n dX8_votesFor_36 rfl ?_
      refine v_iret dX8_votesFor_37 rfl (Nat.le_refl _) (Nat.le_refl _) ?_
      have ei : i = 240 := by omega
      subst ei
      exact ⟨rfl, rfl, rfl⟩
    ·
      refine v_iload_n dX8_votesFor_12 rfl ?_
      refine v_aload_n dX8_votesFor_13 rfl ?_
      refine v_get 0 dX8_votesFor_14 FTX8 (by decide) rfl fl_X8_7 hM.1 rfl ?_
      refine v_iload_n dX8_votesFor_17 rfl ?_
      refine v_iald _ dX8_votesFor_18 hM.2.1 rfl (by omega) (by decide) ?_
      refine v_iload_n dX8_votesFor_19 rfl ?_
      refine v_icmp_ne (tgt := 27) dX8_votesFor_20 (by decide) (fun b20 => ?_) (fun b20 => ?_)
      ·
        refine v_iconst (v := nI 0) dX8_votesFor_27 (by decide) ?_
        refine v_iaddN dX8_votesFor_28 ?_
        refine v_istore_n dX8_votesFor_29 (by decide) rfl ?_
        refine v_iincN dX8_votesFor_30 (by decide) rfl rfl rfl ?_
        refine v_goto (tgt := 5) dX8_votesFor_33 (by decide) ?_
        refine v_eqL ?_ (ih (by omega))
        simp [st, cnt, Nat.add_assoc, b20]
      ·
        refine v_iconst (v := nI 1) dX8_votesFor_23 (by decide) ?_
        refine v_goto (tgt := 28) dX8_votesFor_24 (by decide) ?_
        refine v_iaddN dX8_votesFor_28 ?_
        refine v_istore_n dX8_votesFor_29 (by decide) rfl ?_
        refine v_iincN dX8_votesFor_30 (by decide) rfl rfl rfl ?_
        refine v_goto (tgt := 5) dX8_votesFor_33 (by decide) ?_
        refine v_eqL ?_ (ih (by omega))
        simp [st, cnt, Nat.add_assoc, b20]
  exact LP5 0 (Nat.zero_le _)
set_option maxHeartbeats 4000000 in
set_option maxRecDepth 100000 in
theorem c_begin {w : Wd} {o ns tn : Nat} {kp : Int32} {σ tx cm : Nat → Int32} (hM : MW w o ns tn kp σ tx cm) (a n j : Nat) (h : a + n ≤ 17088) (hj : j ≤ cnt (bl (sft σ a)) n) : Rd mX8_begin 0 [.ref o, .int (nI a), .int (nI n), .int (nI j)] w (some (.int (nI (beg (sft σ a) n j)))) := by
  intro sz
  refine Ev.ofV [some (.ref o), some (.int (nI a)), some (.int (nI n)), some (.int (nI j)), none, none] (by decide) (Nat.le_of_ble_eq_true rfl) rfl rfl rfl ?_
  have B := beg_spec hj
  have hcn := cnt_le (bl (sft σ a)) n
  refine v_iload_n dX8_begin_0 rfl ?_
  refine v_istore dX8_begin_1 (by decide) rfl ?_
  refine v_iconst (v := nI 0) dX8_begin_3 (by decide) ?_
  refine v_istore dX8_begin_4 (by decide) rfl ?_
  have LP6 : ∀ i, i ≤ (beg (sft σ a) n j) → V mX8_begin 0 0 0 (fun r' w' z => r' = some (.int (nI (beg (sft σ a) n j))) ∧ w' = w ∧ z = sz) (w) (sz) (0) (0) [some (.ref o), some (.int (nI a)), some (.int (nI n)), some (.int (nI j)), some (.int (nI (j - cnt (bl (sft σ a)) i))), some (.int (nI i))] [] 6 := by
    refine dn (fun i hi ih => ?_)
    have hc := B.2.2 i
    refine v_iload dX8_begin_6 rfl ?_
    refine v_if_leN (tgt := 41) dX8_begin_8 (by decide) (by omega) (fun b8 => ?_) (fun b8 => ?_)
    ·
      have e1 : i = beg (sft σ a) n j := by
        rcases Nat.lt_or_ge i (beg (sft σ a) n j) with h1 | h1
        · have := hc h1; omega
        · omega
      refine v_iload dX8_begin_41 rfl ?_
      refine v_iret dX8_begin_43 rfl (Nat.le_refl _) (Nat.le_refl _) ?_
      exact ⟨by rw [e1], rfl, rfl⟩
    ·
      have h1 : i < beg (sft σ a) n j := by
        rcases Nat.lt_or_ge i (beg (sft σ a) n j) with h1 | h1
        · exact h1
        · have e1 : i = beg (sft σ a) n j := by omega
          rw [e1, B.2.1] at b8; omega
      have h2 := hc h1
      refine v_iload dX8_begin_11 rfl ?_
      refine v_aload_n dX8_begin_13 rfl ?_
      refine v_get 0 dX8_begin_14 FTX8 (by decide) rfl fl_X8_7 hM.1 rfl ?_
      refine v_iload_n dX8_begin_17 rfl ?_
      refine v_iload dX8_begin_18 rfl ?_
      refine v_iaddN dX8_begin_20 ?_
      refine v_iald _ dX8_begin_21 hM.2.1 rfl (by omega) (by decide) ?_
      refine v_bipush (v := nI 32) dX8_begin_22 (by decide) ?_
      refine v_icmp_ne (tgt := 31) dX8_begin_24 (by decide) (fun b24 => ?_) (fun b24 => ?_)
      ·
        refine v_iconst (v := nI 0) dX8_begin_31 (by decide) ?_
        refine v_isubN dX8_begin_32 (by omega) ?_
        refine v_istore dX8_begin_33 (by decide) rfl ?_
        refine v_iincN dX8_begin_35 (by decide) rfl rfl rfl ?_
        refine v_goto (tgt := 6) dX8_begin_38 (by decide) ?_
        refine v_eqL ?_ (ih (by omega))
        simp [st, cnt, bl, sft, b24, Nat.sub_sub]
      ·
        refine v_iconst (v := nI 1) dX8_begin_27 (by decide) ?_
        refine v_goto (tgt := 32) dX8_begin_28 (by decide) ?_
        refine v_isubN dX8_begin_32 (by omega) ?_
        refine v_istore dX8_begin_33 (by decide) rfl ?_
        refine v_iincN dX8_begin_35 (by decide) rfl rfl rfl ?_
        refine v_goto (tgt := 6) dX8_begin_38 (by decide) ?_
        refine v_eqL ?_ (ih (by omega))
        simp [st, cnt, bl, sft, b24, Nat.sub_sub]
  exact LP6 0 (Nat.zero_le _)
set_option maxHeartbeats 4000000 in
set_option maxRecDepth 100000 in
theorem c_end {w : Wd} {o ns tn : Nat} {kp : Int32} {σ tx cm : Nat → Int32} (hM : MW w o ns tn kp σ tx cm) (a n b : Nat) (h : a + n ≤ 17088) (hb : b ≤ n) : Rd mX8_end 0 [.ref o, .int (nI a), .int (nI n), .int (nI b)] w (some (.int (nI (enn (sft σ a) n b)))) := by
  intro sz
  refine Ev.ofV [some (.ref o), some (.int (nI a)), some (.int (nI n)), some (.int (nI b)), none] (by decide) (Nat.le_of_ble_eq_true rfl) rfl rfl rfl ?_
  have B := fst_le (fun k => bl (sft σ a) (b + k)) (n - b)
  refine v_iload_n dX8_end_0 rfl ?_
  refine v_istore dX8_end_1 (by decide) rfl ?_
  have LP3 : ∀ i, i ≤ (fst (fun k => bl (sft σ a) (b + k)) (n - b)) → V mX8_end 0 0 0 (fun r' w' z => r' = some (.int (nI (enn (sft σ a) n b))) ∧ w' = w ∧ z = sz) (w) (sz) (0) (0) [some (.ref o), some (.int (nI a)), some (.int (nI n)), some (.int (nI b)), some (.int (nI (b + i)))] [] 3 := by
    refine dn (fun i hi ih => ?_)
    refine v_iload dX8_end_3 rfl ?_
    refine v_iload_n dX8_end_5 rfl ?_
    refine v_icmp_geN (tgt := 29) dX8_end_6 (by decide) (by omega) (by omega) (fun b6 => ?_) (fun b6 => ?_)
    ·
      have e1 : i = fst (fun k => bl (sft σ a) (b + k)) (n - b) := by omega
      refine v_iload dX8_end_29 rfl ?_
      refine v_iret dX8_end_31 rfl (Nat.le_refl _) (Nat.le_refl _) ?_
      exact ⟨by rw [e1]; rfl, rfl, rfl⟩
    ·
      refine v_aload_n dX8_end_9 rfl ?_
      refine v_get 0 dX8_end_10 FTX8 (by decide) rfl fl_X8_7 hM.1 rfl ?_
      refine v_iload_n dX8_end_13 rfl ?_
      refine v_iload dX8_end_14 rfl ?_
      refine v_iaddN dX8_end_16 ?_
      refine v_iald _ dX8_end_17 hM.2.1 rfl (by omega) (by decide) ?_
      refine v_bipush (v := nI 32) dX8_end_18 (by decide) ?_
      refine v_icmp_eq (tgt := 29) dX8_end_20 (by decide) (fun b20 => ?_) (fun b20 => ?_)
      ·
        have e1 : i = fst (fun k => bl (sft σ a) (b + k)) (n - b) := by
          rcases Nat.lt_or_ge i (fst (fun k => bl (sft σ a) (b + k)) (n - b)) with h1 | h1
          · have := fst_no _ _ _ h1
            simp [bl, sft, b20] at this
          · omega
        refine v_iload dX8_end_29 rfl ?_
        refine v_iret dX8_end_31 rfl (Nat.le_refl _) (Nat.le_refl _) ?_
        exact ⟨by rw [e1]; rfl, rfl, rfl⟩
      ·
        have h1 : i < fst (fun k => bl (sft σ a) (b + k)) (n - b) := by
          rcases Nat.lt_or_ge i (fst (fun k => bl (sft σ a) (b + k)) (n - b)) with h1 | h1
          · exact h1
          · have h2 := fst_yes (fun k => bl (sft σ a) (b + k)) (n - b) (by omega)
            rw [show fst (fun k => bl (sft σ a) (b + k)) (n - b) = i by omega] at h2
            simp [bl, sft, b20] at h2
        refine v_iincN dX8_end_23 (by decide) rfl rfl rfl ?_
        refine v_goto (tgt := 3) dX8_end_26 (by decide) ?_
        exact ih h1
  exact LP3 0 (Nat.zero_le _)
set_option maxHeartbeats 4000000 in
set_option maxRecDepth 100000 in
theorem c_areAlike {w : Wd} {o ns tn : Nat} {kp : Int32} {σ tx cm : Nat → Int32} (hM : MW w o ns tn kp σ tx cm) (a n i b m j : Nat) (h : a + n ≤ 17088) (h2 : b + m ≤ 17088) (hi : i ≤ cnt (bl (sft σ a)) n) (hj : j ≤ cnt (bl (sft σ b)) m) : Rd mX8_areAlike 1 [.ref o, .int (nI a), .int (nI n), .int (nI i), .int (nI b), .int (nI m), .int (nI j)] w (some (.int (b2i (same (sft σ a) n i (sft σ b) m j)))) := by
  intro sz
  refine Ev.ofV [some (.ref o), some (.int (nI a)), some (.int (nI n)), some (.int (nI i)), some (.int (nI b)), some (.int (nI m)), some (.int (nI j)), none, none, none, none, none] (by decide) (Nat.le_of_ble_eq_true rfl) rfl rfl rfl ?_
  have hA := beg_spec hi
  have hB := beg_spec hj
  obtain ⟨A, eA⟩ : ∃ A, beg (sft σ a) n i = A := ⟨_, rfl⟩
  obtain ⟨B, eB⟩ : ∃ B, beg (sft σ b) m j = B := ⟨_, rfl⟩
  have cA := c_begin hM a n i h hi
  have cB := c_begin hM b m j h2 hj
  rw [eA] at hA cA
  rw [eB] at hB cB
  have hA2 := enn_le (f := sft σ a) hA.1
  have hB2 := enn_le (f := sft σ b) hB.1
  refine v_aload_n dX8_areAlike_0 rfl ?_
  refine v_iload_n dX8_areAlike_1 rfl ?_
  refine v_iload_n dX8_areAlike_2 rfl ?_
  refine v_iload_n dX8_areAlike_3 rfl ?_
  refine u_rV3 oX8_begin dX8_areAlike_4 ml_X8_35 cA hM.1 (by decide) (Nat.le_of_ble_eq_true rfl) (Nat.le_refl _) (Nat.le_refl _) ?_
  refine v_istore dX8_areAlike_7 (by decide) rfl ?_
  refine v_aload_n dX8_areAlike_9 rfl ?_
  refine v_iload dX8_areAlike_10 rfl ?_
  refine v_iload dX8_areAlike_12 rfl ?_
  refine v_iload dX8_areAlike_14 rfl ?_
  refine u_rV3 oX8_begin dX8_areAlike_16 ml_X8_35 cB hM.1 (by decide) (Nat.le_of_ble_eq_true rfl) (Nat.le_refl _) (Nat.le_refl _) ?_
  refine v_istore dX8_areAlike_19 (by decide) rfl ?_
  refine v_aload_n dX8_areAlike_21 rfl ?_
  refine v_iload_n dX8_areAlike_22 rfl ?_
  refine v_iload_n dX8_areAlike_23 rfl ?_
  refine v_iload dX8_areAlike_24 rfl ?_
  refine u_rV3 oX8_end dX8_areAlike_26 ml_X8_39 (c_end hM a n A h hA.1) hM.1 (by decide) (Nat.le_of_ble_eq_true rfl) (Nat.le_refl _) (Nat.le_refl _) ?_
  refine v_iload dX8_areAlike_29 rfl ?_
  refine v_isubN dX8_areAlike_31 (enn_le hA.1).1 ?_
  refine v_istore dX8_areAlike_32 (by decide) rfl ?_
  refine v_aload_n dX8_areAlike_34 rfl ?_
  refine v_iload dX8_areAlike_35 rfl ?_
  refine v_iload dX8_areAlike_37 rfl ?_
  refine v_iload dX8_areAlike_39 rfl ?_
  refine u_rV3 oX8_end dX8_areAlike_41 ml_X8_39 (c_end hM b m B h2 hB.1) hM.1 (by decide) (Nat.le_of_ble_eq_true rfl) (Nat.le_refl _) (Nat.le_refl _) ?_
  refine v_iload dX8_areAlike_44 rfl ?_
  refine v_isubN dX8_areAlike_46 (enn_le hB.1).1 ?_
  refine v_iload dX8_areAlike_47 rfl ?_
  refine v_icmp_neN (tgt := 56) dX8_areAlike_49 (by decide) (by omega) (by omega) (fun b49 => ?_) (fun b49 => ?_)
  ·
    have c49 : (enn (sft σ a) n A - A == enn (sft σ b) m B - B) = false := by simp; omega
    refine v_iconst (v := nI 0) dX8_areAlike_56 (by decide) ?_
    refine v_istore dX8_areAlike_57 (by decide) rfl ?_
    refine v_iconst (v := nI 0) dX8_areAlike_59 (by decide) ?_
    refine v_istore dX8_areAlike_60 (by decide) rfl ?_
    have LP62 : ∀ k, k ≤ (enn (sft σ a) n A - A) → V mX8_areAlike 1 0 0 (fun r' w' z => r' = some (.int (b2i (same (sft σ a) n i (sft σ b) m j))) ∧ w' = w ∧ z = sz) (w) (sz) (0) (0) [some (.ref o), some (.int (nI a)), some (.int (nI n)), some (.int (nI i)), some (.int (nI b)), some (.int (nI m)), some (.int (nI j)), some (.int (nI A)), some (.int (nI B)), some (.int (nI (enn (sft σ a) n A - A))), some (.int (b2i ((enn (sft σ a) n A - A == enn (sft σ b) m B - B) && al (fun k => sft σ a (A + k) == sft σ b (B + k)) k))), some (.int (nI k))] [] 62 := by
      refine dn (fun k hk ih => ?_)
      refine v_iload dX8_areAlike_62 rfl ?_
      refine v_iload dX8_areAlike_64 rfl ?_
      refine v_icmp_geN (tgt := 115) dX8_areAlike_66 (by decide) (by omega) (by omega) (fun b66 => ?_) (fun b66 => ?_)
      ·
        have e9 : k = enn (sft σ a) n A - A := by omega
        have e8 : ((enn (sft σ a) n A - A == enn (sft σ b) m B - B) && al (fun k => sft σ a (A + k) == sft σ b (B + k)) (enn (sft σ a) n A - A)) = ((enn (sft σ a) n A - A == enn (sft σ b) m B - B) && al (fun k => sft σ a (A + k) == sft σ b (B + k)) k) := by rw [e9]
        refine v_iload dX8_areAlike_115 rfl ?_
        refine v_zret dX8_areAlike_117 rfl (b2i_nar _) (Nat.le_refl _) (Nat.le_refl _) ?_
        exact ⟨by unfold same weq; rw [eA, eB, e8], rfl, rfl⟩
      ·
        refine v_iload dX8_areAlike_69 rfl ?_
        refine v_if_eqB (tgt := 115) dX8_areAlike_71 (by decide) (fun b71 => ?_) (fun b71 => ?_)
        ·
          have e8 : ((enn (sft σ a) n A - A == enn (sft σ b) m B - B) && al (fun k => sft σ a (A + k) == sft σ b (B + k)) (enn (sft σ a) n A - A)) = ((enn (sft σ a) n A - A == enn (sft σ b) m B - B) && al (fun k => sft σ a (A + k) == sft σ b (B + k)) k) := by
            rw [b71]
            cases h0 : (enn (sft σ a) n A - A == enn (sft σ b) m B - B)
            · rfl
            · rw [h0] at b71; exact al_mono hk b71
          refine v_iload dX8_areAlike_115 rfl ?_
          refine v_zret dX8_areAlike_117 rfl (b2i_nar _) (Nat.le_refl _) (Nat.le_refl _) ?_
          exact ⟨by unfold same weq; rw [eA, eB, e8], rfl, rfl⟩
        ·
          have e1 : enn (sft σ a) n A - A = enn (sft σ b) m B - B := by simp at b71; exact b71.1
          have e2 : al (fun k => sft σ a (A + k) == sft σ b (B + k)) k = true := by simp at b71; exact b71.2
          refine v_aload_n dX8_areAlike_74 rfl ?_
          refine v_get 0 dX8_areAlike_75 FTX8 (by decide) rfl fl_X8_7 hM.1 rfl ?_
          refine v_iload_n dX8_areAlike_78 rfl ?_
          refine v_iload dX8_areAlike_79 rfl ?_
          refine v_iaddN dX8_areAlike_81 ?_
          refine v_iload dX8_areAlike_82 rfl ?_
          refine v_iaddN dX8_areAlike_84 ?_
          refine v_iald _ dX8_areAlike_85 hM.2.1 rfl (by omega) (by decide) ?_
          refine v_aload_n dX8_areAlike_86 rfl ?_
          refine v_get 0 dX8_areAlike_87 FTX8 (by decide) rfl fl_X8_7 hM.1 rfl ?_
          refine v_iload dX8_areAlike_90 rfl ?_
          refine v_iload dX8_areAlike_92 rfl ?_
          refine v_iaddN dX8_areAlike_94 ?_
          refine v_iload dX8_areAlike_95 rfl ?_
          refine v_iaddN dX8_areAlike_97 ?_
          refine v_iald _ dX8_areAlike_98 hM.2.1 rfl (by omega) (by decide) ?_
          refine v_icmp_ne (tgt := 106) dX8_areAlike_99 (by decide) (fun b99 => ?_) (fun b99 => ?_)
          ·
            have e3 : (sft σ a (A + k) == sft σ b (B + k)) = false := by simp [sft, ← Nat.add_assoc, b99]
            refine v_iconst (v := nI 0) dX8_areAlike_106 (by decide) ?_
            refine v_istore dX8_areAlike_107 (by decide) rfl ?_
            refine v_iincN dX8_areAlike_109 (by decide) rfl rfl rfl ?_
            refine v_goto (tgt := 62) dX8_areAlike_112 (by decide) ?_
            refine v_eqL ?_ (ih (by omega))
            simp [st, al, b2i, e1, e2, e3]
          ·
            have e3 : (sft σ a (A + k) == sft σ b (B + k)) = true := by simp [sft, ← Nat.add_assoc, b99]
            refine v_iconst (v := nI 1) dX8_areAlike_102 (by decide) ?_
            refine v_goto (tgt := 107) dX8_areAlike_103 (by decide) ?_
            refine v_istore dX8_areAlike_107 (by decide) rfl ?_
            refine v_iincN dX8_areAlike_109 (by decide) rfl rfl rfl ?_
            refine v_goto (tgt := 62) dX8_areAlike_112 (by decide) ?_
            refine v_eqL ?_ (ih (by omega))
            simp [st, al, b2i, e1, e2, e3]
    refine v_eqL ?_ (LP62 0 (Nat.zero_le _))
    simp [st, al, b2i, c49]
  ·
    have c49 : (enn (sft σ a) n A - A == enn (sft σ b) m B - B) = true := by simp; omega
    refine v_iconst (v := nI 1) dX8_areAlike_52 (by decide) ?_
    refine v_goto (tgt := 57) dX8_areAlike_53 (by decide) ?_
    refine v_istore dX8_areAlike_57 (by decide) rfl ?_
    refine v_iconst (v := nI 0) dX8_areAlike_59 (by decide) ?_
    refine v_istore dX8_areAlike_60 (by decide) rfl ?_
    have LP62 : ∀ k, k ≤ (enn (sft σ a) n A - A) → V mX8_areAlike 1 0 0 (fun r' w' z => r' = some (.int (b2i (same (sft σ a) n i (sft σ b) m j))) ∧ w' = w ∧ z = sz) (w) (sz) (0) (0) [some (.ref o), some (.int (nI a)), some (.int (nI n)), some (.int (nI i)), some (.int (nI b)), some (.int (nI m)), some (.int (nI j)), some (.int (nI A)), some (.int (nI B)), some (.int (nI (enn (sft σ a) n A - A))), some (.int (b2i ((enn (sft σ a) n A - A == enn (sft σ b) m B - B) && al (fun k => sft σ a (A + k) == sft σ b (B + k)) k))), some (.int (nI k))] [] 62 := by
      refine dn (fun k hk ih => ?_)
      refine v_iload dX8_areAlike_62 rfl ?_
      refine v_iload dX8_areAlike_64 rfl ?_
      refine v_icmp_geN (tgt := 115) dX8_areAlike_66 (by decide) (by omega) (by omega) (fun b66 => ?_) (fun b66 => ?_)
      ·
        have e9 : k = enn (sft σ a) n A - A := by omega
        have e8 : ((enn (sft σ a) n A - A == enn (sft σ b) m B - B) && al (fun k => sft σ a (A + k) == sft σ b (B + k)) (enn (sft σ a) n A - A)) = ((enn (sft σ a) n A - A == enn (sft σ b) m B - B) && al (fun k => sft σ a (A + k) == sft σ b (B + k)) k) := by rw [e9]
        refine v_iload dX8_areAlike_115 rfl ?_
        refine v_zret dX8_areAlike_117 rfl (b2i_nar _) (Nat.le_refl _) (Nat.le_refl _) ?_
        exact ⟨by unfold same weq; rw [eA, eB, e8], rfl, rfl⟩
      ·
        refine v_iload dX8_areAlike_69 rfl ?_
        refine v_if_eqB (tgt := 115) dX8_areAlike_71 (by decide) (fun b71 => ?_) (fun b71 => ?_)
        ·
          have e8 : ((enn (sft σ a) n A - A == enn (sft σ b) m B - B) && al (fun k => sft σ a (A + k) == sft σ b (B + k)) (enn (sft σ a) n A - A)) = ((enn (sft σ a) n A - A == enn (sft σ b) m B - B) && al (fun k => sft σ a (A + k) == sft σ b (B + k)) k) := by
            rw [b71]
            cases h0 : (enn (sft σ a) n A - A == enn (sft σ b) m B - B)
            · rfl
            · rw [h0] at b71; exact al_mono hk b71
          refine v_iload dX8_areAlike_115 rfl ?_
          refine v_zret dX8_areAlike_117 rfl (b2i_nar _) (Nat.le_refl _) (Nat.le_refl _) ?_
          exact ⟨by unfold same weq; rw [eA, eB, e8], rfl, rfl⟩
        ·
          have e1 : enn (sft σ a) n A - A = enn (sft σ b) m B - B := by simp at b71; exact b71.1
          have e2 : al (fun k => sft σ a (A + k) == sft σ b (B + k)) k = true := by simp at b71; exact b71.2
          refine v_aload_n dX8_areAlike_74 rfl ?_
          refine v_get 0 dX8_areAlike_75 FTX8 (by decide) rfl fl_X8_7 hM.1 rfl ?_
          refine v_iload_n dX8_areAlike_78 rfl ?_
          refine v_iload dX8_areAlike_79 rfl ?_
          refine v_iaddN dX8_areAlike_81 ?_
          refine v_iload dX8_areAlike_82 rfl ?_
          refine v_iaddN dX8_areAlike_84 ?_
          refine v_iald _ dX8_areAlike_85 hM.2.1 rfl (by omega) (by decide) ?_
          refine v_aload_n dX8_areAlike_86 rfl ?_
          refine v_get 0 dX8_areAlike_87 FTX8 (by decide) rfl fl_X8_7 hM.1 rfl ?_
          refine v_iload dX8_areAlike_90 rfl ?_
          refine v_iload dX8_areAlike_92 rfl ?_
          refine v_iaddN dX8_areAlike_94 ?_
          refine v_iload dX8_areAlike_95 rfl ?_
          refine v_iaddN dX8_areAlike_97 ?_
          refine v_iald _ dX8_areAlike_98 hM.2.1 rfl (by omega) (by decide) ?_
          refine v_icmp_ne (tgt := 106) dX8_areAlike_99 (by decide) (fun b99 => ?_) (fun b99 => ?_)
          ·
            have e3 : (sft σ a (A + k) == sft σ b (B + k)) = false := by simp [sft, ← Nat.add_assoc, b99]
            refine v_iconst (v := nI 0) dX8_areAlike_106 (by decide) ?_
            refine v_istore dX8_areAlike_107 (by decide) rfl ?_
            refine v_iincN dX8_areAlike_109 (by decide) rfl rfl rfl ?_
            refine v_goto (tgt := 62) dX8_areAlike_112 (by decide) ?_
            refine v_eqL ?_ (ih (by omega))
            simp [st, al, b2i, e1, e2, e3]
          ·
            have e3 : (sft σ a (A + k) == sft σ b (B + k)) = true := by simp [sft, ← Nat.add_assoc, b99]
            refine v_iconst (v := nI 1) dX8_areAlike_102 (by decide) ?_
            refine v_goto (tgt := 107) dX8_areAlike_103 (by decide) ?_
            refine v_istore dX8_areAlike_107 (by decide) rfl ?_
            refine v_iincN dX8_areAlike_109 (by decide) rfl rfl rfl ?_
            refine v_goto (tgt := 62) dX8_areAlike_112 (by decide) ?_
            refine v_eqL ?_ (ih (by omega))
            simp [st, al, b2i, e1, e2, e3]
    refine v_eqL ?_ (LP62 0 (Nat.zero_le _))
    simp [st, al, b2i, c49]
theorem c_inb {w : Wd} (x : Int32) (a b : Nat) : Rd mX8_in 0 [.int x, .int (nI a), .int (nI b)] w (some (.int (b2i (decide (nI a ≤ x ∧ x ≤ nI b))))) := by
  have := c_in (w := w) x (nI a) (nI b)
  simpa [b2i] using this
def inB (x : Int32) (b : Nat) : Bool := decide (nI 0 ≤ x ∧ x ≤ nI b)
theorem inB_ub {x : Int32} {b : Nat} (hb : b < 2147483647) (h : inB x b = true) : ub x (b + 1) := by
  simp only [inB, decide_eq_true_eq] at h
  have h1 := Int32.le_iff_toInt_le.mp h.1
  have h2 := Int32.le_iff_toInt_le.mp h.2
  rw [nI_toInt (by omega)] at h1 h2
  have h3 : nt x < 2147483648 := by
    show x.toInt.toNat < _
    omega
  have h4 : x = nI (nt x) := by
    apply Int32.toInt_inj.mp
    rw [nI_toInt h3]
    show x.toInt = ((x.toInt.toNat : Nat) : Int)
    omega
  refine ⟨h4, ?_⟩
  show x.toInt.toNat < _
  omega
theorem inB_nI {a b : Nat} (ha : a < 2147483648) (hb : b < 2147483648) : inB (nI a) b = decide (a ≤ b) := by
  simp only [inB]
  rw [decide_eq_decide]
  rw [nI_leN (by omega) ha, nI_leN ha hb]
  omega
theorem c_inB {w : Wd} (x : Int32) (b : Nat) : Rd mX8_in 0 [.int x, .int (nI 0), .int (nI b)] w (some (.int (b2i (inB x b)))) := c_inb x 0 b

set_option maxHeartbeats 4000000 in
set_option maxRecDepth 100000 in
theorem c_isPair {w : Wd} (x y : Int32) : Rd mX8_isPair 1 [.int x, .int y] w (some (.int (b2i (inB x 7 && inB y 2)))) := by
  intro sz
  refine Ev.ofV [some (.int x), some (.int y)] (by decide) (Nat.le_of_ble_eq_true rfl) rfl rfl rfl ?_
  refine v_iload_n dX8_isPair_0 rfl ?_
  refine v_iconst (v := nI 0) dX8_isPair_1 (by decide) ?_
  refine v_bipush (v := nI 7) dX8_isPair_2 (by decide) ?_
  refine u_rS3 oX8_in dX8_isPair_4 ml_X8_59 (c_inB x 7) (by decide) (Nat.le_of_ble_eq_true rfl) (Nat.le_refl _) (Nat.le_refl _) ?_
  refine v_if_eqB (tgt := 23) dX8_isPair_7 (by decide) (fun b7 => ?_) (fun b7 => ?_)
  ·
    refine v_iconst (v := nI 0) dX8_isPair_23 (by decide) ?_
    refine v_zret dX8_isPair_24 rfl (by decide) (Nat.le_refl _) (Nat.le_refl _) ?_
    exact ⟨by simp [b2i, b7], rfl, rfl⟩
  ·
    refine v_iload_n dX8_isPair_10 rfl ?_
    refine v_iconst (v := nI 0) dX8_isPair_11 (by decide) ?_
    refine v_iconst (v := nI 2) dX8_isPair_12 (by decide) ?_
    refine u_rS3 oX8_in dX8_isPair_13 ml_X8_59 (c_inB y 2) (by decide) (Nat.le_of_ble_eq_true rfl) (Nat.le_refl _) (Nat.le_refl _) ?_
    refine v_if_eqB (tgt := 23) dX8_isPair_16 (by decide) (fun b16 => ?_) (fun b16 => ?_)
    ·
      refine v_iconst (v := nI 0) dX8_isPair_23 (by decide) ?_
      refine v_zret dX8_isPair_24 rfl (by decide) (Nat.le_refl _) (Nat.le_refl _) ?_
      exact ⟨by simp [b2i, b7, b16], rfl, rfl⟩
    ·
      refine v_iconst (v := nI 1) dX8_isPair_19 (by decide) ?_
      refine v_goto (tgt := 24) dX8_isPair_20 (by decide) ?_
      refine v_zret dX8_isPair_24 rfl (by decide) (Nat.le_refl _) (Nat.le_refl _) ?_
      exact ⟨by simp [b2i, b7, b16], rfl, rfl⟩
set_option maxHeartbeats 4000000 in
set_option maxRecDepth 100000 in
theorem c_wordsOf {w : Wd} {o ns tn : Nat} {kp : Int32} {σ tx cm : Nat → Int32} (hM : MW w o ns tn kp σ tx cm) (a b : Nat) (h : a < 8 ∧ b < 3) (hl : ub (σ (272 + 64 * (3 * a + b))) 61) : Rd mX8_wordsOf 1 [.ref o, .int (nI a), .int (nI b)] w (some (.int (nI (nw (sft σ (272 + 64 * (3 * a + b) + 4)) (nt (σ (272 + 64 * (3 * a + b)))))))) := by
  intro sz
  refine Ev.ofV [some (.ref o), some (.int (nI a)), some (.int (nI b)), none] (by decide) (Nat.le_of_ble_eq_true rfl) rfl rfl rfl ?_
  refine v_iload_n dX8_wordsOf_0 rfl ?_
  refine v_iload_n dX8_wordsOf_1 rfl ?_
  refine u_rS2 oX8_rowOf dX8_wordsOf_2 ml_X8_28 (c_rowOf a b) (by decide) (Nat.le_of_ble_eq_true rfl) (Nat.le_refl _) (Nat.le_refl _) ?_
  refine v_istore_n dX8_wordsOf_5 (by decide) rfl ?_
  refine v_aload_n dX8_wordsOf_6 rfl ?_
  refine v_iload_n dX8_wordsOf_7 rfl ?_
  refine v_iconst (v := nI 4) dX8_wordsOf_8 (by decide) ?_
  refine v_iaddN dX8_wordsOf_9 ?_
  refine v_aload_n dX8_wordsOf_10 rfl ?_
  refine v_get 0 dX8_wordsOf_11 FTX8 (by decide) rfl fl_X8_7 hM.1 rfl ?_
  refine v_iload_n dX8_wordsOf_14 rfl ?_
  refine v_ialdN _ dX8_wordsOf_15 hM.2.1 rfl (by omega) (by decide) hl.1 ?_
  refine u_rV2 oX8_words dX8_wordsOf_16 ml_X8_32 (c_words hM _ _ (by have := hl.2; omega)) hM.1 (by decide) (Nat.le_of_ble_eq_true rfl) (Nat.le_refl _) (Nat.le_refl _) ?_
  refine v_iret dX8_wordsOf_19 rfl (Nat.le_refl _) (Nat.le_refl _) ?_
  exact ⟨rfl, rfl, rfl⟩
set_option maxHeartbeats 4000000 in
set_option maxRecDepth 100000 in
theorem c_isLabel {w : Wd} {o ns tn : Nat} {kp : Int32} {σ tx cm : Nat → Int32} (hM : MW w o ns tn kp σ tx cm) (a b : Nat) (h : a < 8 ∧ b < 3) (hl : ub (σ (272 + 64 * (3 * a + b))) 61) : Rd mX8_isLabel 1 [.ref o, .int (nI a), .int (nI b)] w (some (.int (b2i (decide (0 < nt (σ (272 + 64 * (3 * a + b)))))))) := by
  intro sz
  refine Ev.ofV [some (.ref o), some (.int (nI a)), some (.int (nI b))] (by decide) (Nat.le_of_ble_eq_true rfl) rfl rfl rfl ?_
  refine v_aload_n dX8_isLabel_0 rfl ?_
  refine v_get 0 dX8_isLabel_1 FTX8 (by decide) rfl fl_X8_7 hM.1 rfl ?_
  refine v_iload_n dX8_isLabel_4 rfl ?_
  refine v_iload_n dX8_isLabel_5 rfl ?_
  refine u_rS2 oX8_rowOf dX8_isLabel_6 ml_X8_28 (c_rowOf a b) (by decide) (Nat.le_of_ble_eq_true rfl) (Nat.le_refl _) (Nat.le_refl _) ?_
  refine v_ialdN _ dX8_isLabel_9 hM.2.1 rfl (by omega) (by decide) hl.1 ?_
  refine v_if_leN (tgt := 17) dX8_isLabel_10 (by decide) (by have := hl.2; omega) (fun b10 => ?_) (fun b10 => ?_)
  ·
    refine v_iconst (v := nI 0) dX8_isLabel_17 (by decide) ?_
    refine v_zret dX8_isLabel_18 rfl (by decide) (Nat.le_refl _) (Nat.le_refl _) ?_
    exact ⟨by simp [b2i, b10], rfl, rfl⟩
  ·
    refine v_iconst (v := nI 1) dX8_isLabel_13 (by decide) ?_
    refine v_goto (tgt := 18) dX8_isLabel_14 (by decide) ?_
    refine v_zret dX8_isLabel_18 rfl (by decide) (Nat.le_refl _) (Nat.le_refl _) ?_
    exact ⟨by simp [b2i, b10], rfl, rfl⟩
set_option maxHeartbeats 4000000 in
set_option maxRecDepth 100000 in
theorem c_placeOf {w : Wd} {o ns tn : Nat} {kp : Int32} {σ tx cm : Nat → Int32} (hM : MW w o ns tn kp σ tx cm) (x : Int32) : Rd mX8_placeOf 1 [.ref o, .int x] w (some (.int (lst (fun k => decide (0 ≤ x) && σ (1808 + 65 * k) == x) 16))) := by
  intro sz
  refine Ev.ofV [some (.ref o), some (.int x), none, none] (by decide) (Nat.le_of_ble_eq_true rfl) rfl rfl rfl ?_
  refine v_iconst (v := -1) dX8_placeOf_0 (by decide) ?_
  refine v_istore_n dX8_placeOf_1 (by decide) rfl ?_
  refine v_iconst (v := nI 0) dX8_placeOf_2 (by decide) ?_
  refine v_istore_n dX8_placeOf_3 (by decide) rfl ?_
  have LP4 : ∀ i, i ≤ 16 → V mX8_placeOf 1 0 0 (fun r' w' z => r' = some (.int (lst (fun k => decide (0 ≤ x) && σ (1808 + 65 * k) == x) 16)) ∧ w' = w ∧ z = sz) (w) (sz) (0) (0) [some (.ref o), some (.int x), some (.int (lst (fun k => decide (0 ≤ x) && σ (1808 + 65 * k) == x) i)), some (.int (nI i))] [] 4 := by
    refine dn (fun i hi ih => ?_)
    refine v_iload_n dX8_placeOf_4 rfl ?_
    refine v_bipush (v := nI 16) dX8_placeOf_5 (by decide) ?_
    refine v_icmp_geN (tgt := 39) dX8_placeOf_7 (by decide) (by omega) (by omega) (fun b7 => ?_) (fun b7 => ?_)
    ·
      refine v_iload_n dX8_placeOf_39 rfl ?_
      refine v_iret dX8_placeOf_40 rfl (Nat.le_refl _) (Nat.le_refl _) ?_
      have ei : i = 16 := by omega
      subst ei
      exact ⟨rfl, rfl, rfl⟩
    ·
      refine v_iload_n dX8_placeOf_10 rfl ?_
      refine v_if_lt (tgt := 31) dX8_placeOf_11 (by decide) (fun b11 => ?_) (fun b11 => ?_)
      ·
        have q : ¬ (0 : Int32) ≤ x := Int32.not_le.mpr b11
        refine v_iload_n dX8_placeOf_31 rfl ?_
        refine v_istore_n dX8_placeOf_32 (by decide) rfl ?_
        refine v_iincN dX8_placeOf_33 (by decide) rfl rfl rfl ?_
        refine v_goto (tgt := 4) dX8_placeOf_36 (by decide) ?_
        refine v_eqL ?_ (ih (by omega))
        simp [st, lst, q]
      ·
        have q1 : (0 : Int32) ≤ x := Int32.not_lt.mp b11
        refine v_aload_n dX8_placeOf_14 rfl ?_
        refine v_get 0 dX8_placeOf_15 FTX8 (by decide) rfl fl_X8_7 hM.1 rfl ?_
        refine v_iload_n dX8_placeOf_18 rfl ?_
        refine u_rS1 oX8_paper dX8_placeOf_19 ml_X8_49 (c_paper i) (by decide) (Nat.le_of_ble_eq_true rfl) (Nat.le_refl _) (Nat.le_refl _) ?_
        refine v_iald _ dX8_placeOf_22 hM.2.1 rfl (by omega) (by decide) ?_
        refine v_iload_n dX8_placeOf_23 rfl ?_
        refine v_icmp_ne (tgt := 31) dX8_placeOf_24 (by decide) (fun b24 => ?_) (fun b24 => ?_)
        ·
          have q : ¬ (0 ≤ x ∧ σ (1808 + 65 * i) = x) := fun z => b24 z.2
          refine v_iload_n dX8_placeOf_31 rfl ?_
          refine v_istore_n dX8_placeOf_32 (by decide) rfl ?_
          refine v_iincN dX8_placeOf_33 (by decide) rfl rfl rfl ?_
          refine v_goto (tgt := 4) dX8_placeOf_36 (by decide) ?_
          refine v_eqL ?_ (ih (by omega))
          simp [st, lst, q]
        ·
          have q : 0 ≤ x ∧ σ (1808 + 65 * i) = x := ⟨q1, b24⟩
          refine v_iload_n dX8_placeOf_27 rfl ?_
          refine v_goto (tgt := 32) dX8_placeOf_28 (by decide) ?_
          refine v_istore_n dX8_placeOf_32 (by decide) rfl ?_
          refine v_iincN dX8_placeOf_33 (by decide) rfl rfl rfl ?_
          refine v_goto (tgt := 4) dX8_placeOf_36 (by decide) ?_
          refine v_eqL ?_ (ih (by omega))
          simp [st, lst, q]
  exact LP4 0 (Nat.zero_le _)
set_option maxHeartbeats 4000000 in
set_option maxRecDepth 100000 in
theorem c_own {w : Wd} {o ns tn : Nat} {kp : Int32} {σ tx cm : Nat → Int32} (hM : MW w o ns tn kp σ tx cm) (v p : Nat) : Rd mX8_own 1 [.ref o, .int (nI v), .int (nI p)] w (some (.int (lst (fun k => decide (0 ≤ σ (1808 + 65 * k)) && σ (1808 + 65 * k + 1) == nI p && σ (1808 + 65 * k + 2) == nI v) 16))) := by
  intro sz
  refine Ev.ofV [some (.ref o), some (.int (nI v)), some (.int (nI p)), none, none, none] (by decide) (Nat.le_of_ble_eq_true rfl) rfl rfl rfl ?_
  refine v_iconst (v := -1) dX8_own_0 (by decide) ?_
  refine v_istore_n dX8_own_1 (by decide) rfl ?_
  refine v_iconst (v := nI 0) dX8_own_2 (by decide) ?_
  refine v_istore dX8_own_3 (by decide) rfl ?_
  have LP5 : ∀ i, i ≤ 16 → V mX8_own 1 0 0 (fun r' w' z => r' = some (.int (lst (fun k => decide (0 ≤ σ (1808 + 65 * k)) && σ (1808 + 65 * k + 1) == nI p && σ (1808 + 65 * k + 2) == nI v) 16)) ∧ w' = w ∧ z = sz) (w) (sz) (0) (0) [some (.ref o), some (.int (nI v)), some (.int (nI p)), some (.int (lst (fun k => decide (0 ≤ σ (1808 + 65 * k)) && σ (1808 + 65 * k + 1) == nI p && σ (1808 + 65 * k + 2) == nI v) i)), some (.int (nI i)), none] [] 5 := by
    refine dn (fun i hi ih => ?_)
    refine v_iload dX8_own_5 rfl ?_
    refine v_bipush (v := nI 16) dX8_own_7 (by decide) ?_
    refine v_icmp_geN (tgt := 68) dX8_own_9 (by decide) (by omega) (by omega) (fun b9 => ?_) (fun b9 => ?_)
    ·
      refine v_iload_n dX8_own_68 rfl ?_
      refine v_iret dX8_own_69 rfl (Nat.le_refl _) (Nat.le_refl _) ?_
      have ei : i = 16 := by omega
      subst ei
      exact ⟨rfl, rfl, rfl⟩
    ·
      refine v_iload dX8_own_12 rfl ?_
      refine u_rS1 oX8_paper dX8_own_14 ml_X8_49 (c_paper i) (by decide) (Nat.le_of_ble_eq_true rfl) (Nat.le_refl _) (Nat.le_refl _) ?_
      refine v_istore dX8_own_17 (by decide) rfl ?_
      refine v_aload_n dX8_own_19 rfl ?_
      refine v_get 0 dX8_own_20 FTX8 (by decide) rfl fl_X8_7 hM.1 rfl ?_
      refine v_iload dX8_own_23 rfl ?_
      refine v_iald _ dX8_own_25 hM.2.1 rfl (by omega) (by decide) ?_
      refine v_if_lt (tgt := 60) dX8_own_26 (by decide) (fun b26 => ?_) (fun b26 => ?_)
      ·
        have q : ¬ (0 : Int32) ≤ σ (1808 + 65 * i) := Int32.not_le.mpr b26
        refine v_iload_n dX8_own_60 rfl ?_
        refine v_istore_n dX8_own_61 (by decide) rfl ?_
        refine v_iincN dX8_own_62 (by decide) rfl rfl rfl ?_
        refine v_goto (tgt := 5) dX8_own_65 (by decide) ?_
        refine v_drop 5 ?_
        refine v_eqL ?_ (ih (by omega))
        simp [st, dr, lst, q]
      ·
        have q1 : (0 : Int32) ≤ σ (1808 + 65 * i) := Int32.not_lt.mp b26
        refine v_aload_n dX8_own_29 rfl ?_
        refine v_get 0 dX8_own_30 FTX8 (by decide) rfl fl_X8_7 hM.1 rfl ?_
        refine v_iload dX8_own_33 rfl ?_
        refine v_iconst (v := nI 1) dX8_own_35 (by decide) ?_
        refine v_iaddN dX8_own_36 ?_
        refine v_iald _ dX8_own_37 hM.2.1 rfl (by omega) (by decide) ?_
        refine v_iload_n dX8_own_38 rfl ?_
        refine v_icmp_ne (tgt := 60) dX8_own_39 (by decide) (fun b39 => ?_) (fun b39 => ?_)
        ·
          have q : ¬ ((0 ≤ σ (1808 + 65 * i) ∧ σ (1808 + 65 * i + 1) = nI p) ∧ σ (1808 + 65 * i + 2) = nI v) := fun z => b39 z.1.2
          refine v_iload_n dX8_own_60 rfl ?_
          refine v_istore_n dX8_own_61 (by decide) rfl ?_
          refine v_iincN dX8_own_62 (by decide) rfl rfl rfl ?_
          refine v_goto (tgt := 5) dX8_own_65 (by decide) ?_
          refine v_drop 5 ?_
          refine v_eqL ?_ (ih (by omega))
          simp [st, dr, lst, q]
        ·
          refine v_aload_n dX8_own_42 rfl ?_
          refine v_get 0 dX8_own_43 FTX8 (by decide) rfl fl_X8_7 hM.1 rfl ?_
          refine v_iload dX8_own_46 rfl ?_
          refine v_iconst (v := nI 2) dX8_own_48 (by decide) ?_
          refine v_iaddN dX8_own_49 ?_
          refine v_iald _ dX8_own_50 hM.2.1 rfl (by omega) (by decide) ?_
          refine v_iload_n dX8_own_51 rfl ?_
          refine v_icmp_ne (tgt := 60) dX8_own_52 (by decide) (fun b52 => ?_) (fun b52 => ?_)
          ·
            have q : ¬ ((0 ≤ σ (1808 + 65 * i) ∧ σ (1808 + 65 * i + 1) = nI p) ∧ σ (1808 + 65 * i + 2) = nI v) := fun z => b52 z.2
            refine v_iload_n dX8_own_60 rfl ?_
            refine v_istore_n dX8_own_61 (by decide) rfl ?_
            refine v_iincN dX8_own_62 (by decide) rfl rfl rfl ?_
            refine v_goto (tgt := 5) dX8_own_65 (by decide) ?_
            refine v_drop 5 ?_
            refine v_eqL ?_ (ih (by omega))
            simp [st, dr, lst, q]
          ·
            have q : (0 ≤ σ (1808 + 65 * i) ∧ σ (1808 + 65 * i + 1) = nI p) ∧ σ (1808 + 65 * i + 2) = nI v := ⟨⟨q1, b39⟩, b52⟩
            refine v_iload dX8_own_55 rfl ?_
            refine v_goto (tgt := 61) dX8_own_57 (by decide) ?_
            refine v_istore_n dX8_own_61 (by decide) rfl ?_
            refine v_iincN dX8_own_62 (by decide) rfl rfl rfl ?_
            refine v_goto (tgt := 5) dX8_own_65 (by decide) ?_
            refine v_drop 5 ?_
            refine v_eqL ?_ (ih (by omega))
            simp [st, dr, lst, q]
  exact LP5 0 (Nat.zero_le _)
