set_option maxHeartbeats 4000000 in
set_option maxRecDepth 100000 in
theorem c_free {w : Wd} {o ns tn : Nat} {kp : Int32} {σ tx cm : Nat → Int32} (hM : MW w o ns tn kp σ tx cm) : Rd mX8_free 1 [.ref o] w (some (.int (dnI (fun k => decide (σ (1808 + 65 * k) < 0)) 16))) := by
  intro sz
  refine Ev.ofV [some (.ref o), none, none] (by decide) (Nat.le_of_ble_eq_true rfl) rfl rfl rfl ?_
  have LP : ∀ m, m ≤ 16 → V mX8_free 1 0 0 (fun r' w' z => r' = some (.int (dnI (fun k => decide (σ (1808 + 65 * k) < 0)) 16)) ∧ w' = w ∧ z = sz) (w) (sz) (0) (0) [some (.ref o), some (.int (dnI (fun k => decide (σ (1808 + 65 * k) < 0)) (16 - m))), some (.int (nI m - 1))] [] 5 := by
    intro m
    induction m with
    | zero =>
      intro hm
      have e0 : nI 0 - 1 = (-1 : Int32) := by decide
      rw [e0]
      refine v_iload_n dX8_free_5 rfl ?_
      refine v_if_lt (tgt := 33) dX8_free_6 (by decide) (fun b6 => ?_) (fun b6 => ?_)
      ·
        refine v_iload_n dX8_free_33 rfl ?_
        refine v_iret dX8_free_34 rfl (Nat.le_refl _) (Nat.le_refl _) ?_
        exact ⟨rfl, rfl, rfl⟩
      ·
        exact absurd (by decide) b6
    | succ m ih =>
      intro hm
      have e0 : nI (m + 1) - 1 = nI m := by
        show nI (m + 1) - nI 1 = nI m
        rw [nI_subN (by omega)]; rfl
      rw [e0]
      refine v_iload_n dX8_free_5 rfl ?_
      refine v_if_ltN (tgt := 33) dX8_free_6 (by decide) (by omega) ?_
      refine v_aload_n dX8_free_9 rfl ?_
      refine v_get 0 dX8_free_10 FTX8 (by decide) rfl fl_X8_7 hM.1 rfl ?_
      refine v_iload_n dX8_free_13 rfl ?_
      refine u_rS1 oX8_paper dX8_free_14 ml_X8_49 (c_paper m) (by decide) (Nat.le_of_ble_eq_true rfl) (Nat.le_refl _) (Nat.le_refl _) ?_
      refine v_iald _ dX8_free_17 hM.2.1 rfl (by omega) (by decide) ?_
      refine v_if_ge (tgt := 25) dX8_free_18 (by decide) (fun b18 => ?_) (fun b18 => ?_)
      ·
        have q : ¬ σ (1808 + 65 * m) < 0 := Int32.not_lt.mpr b18
        refine v_iload_n dX8_free_25 rfl ?_
        refine v_istore_n dX8_free_26 (by decide) rfl ?_
        refine v_iinc dX8_free_27 (by decide) rfl rfl rfl ?_
        refine v_goto (tgt := 5) dX8_free_30 (by decide) ?_
        refine v_eqL ?_ (ih (by omega))
        have e1 : 16 - m = (15 - m) + 1 := by omega
        have e3 : 15 - (15 - m) = m := by omega
        simp [st, e1, dnI, e3, q, Int32.sub_eq_add_neg]
        try rfl
      ·
        have q : σ (1808 + 65 * m) < 0 := Int32.not_le.mp b18
        refine v_iload_n dX8_free_21 rfl ?_
        refine v_goto (tgt := 26) dX8_free_22 (by decide) ?_
        refine v_istore_n dX8_free_26 (by decide) rfl ?_
        refine v_iinc dX8_free_27 (by decide) rfl rfl rfl ?_
        refine v_goto (tgt := 5) dX8_free_30 (by decide) ?_
        refine v_eqL ?_ (ih (by omega))
        have e1 : 16 - m = (15 - m) + 1 := by omega
        have e3 : 15 - (15 - m) = m := by omega
        simp [st, e1, dnI, e3, q, Int32.sub_eq_add_neg]
        try rfl
  refine v_iconst (v := -1) dX8_free_0 (by decide) ?_
  refine v_istore_n dX8_free_1 (by decide) rfl ?_
  refine v_bipush (v := nI 15) dX8_free_2 (by decide) ?_
  refine v_istore_n dX8_free_4 (by decide) rfl ?_
  exact LP 16 (Nat.le_refl _)
set_option maxHeartbeats 4000000 in
set_option maxRecDepth 100000 in
theorem c_goes {w : Wd} {o ns tn : Nat} {kp : Int32} {σ tx cm : Nat → Int32} (hM : MW w o ns tn kp σ tx cm) (k : Nat) (hk : k < 16) : Wr mX8_goes 1 [.ref o, .int (nI k)] w (fun r' w' => r' = none ∧ w' = wu w (o + 1) (ia 1 17088 (gone σ k))) := by
  intro sz
  refine Ev.ofV [some (.ref o), some (.int (nI k)), none] (by decide) (Nat.le_of_ble_eq_true rfl) rfl rfl rfl ?_
  refine v_eqw hM.self ?_
  refine v_bipush (v := nI 32) dX8_goes_0 (by decide) ?_
  refine v_istore_n dX8_goes_2 (by decide) rfl ?_
  have LP3 : ∀ i, i ≤ 240 → V mX8_goes 1 0 0 (fun r' w' z => z = sz ∧ r' = none ∧ w' = wu w (o + 1) (ia 1 17088 (gone σ k))) (wu w (o + 1) (ia 1 17088 (gv σ (σ (1808 + 65 * k)) i))) (sz) (0) (0) [some (.ref o), some (.int (nI k)), some (.int (nI (32 + i)))] [] 3 := by
    refine dn (fun i hi ih => ?_)
    refine v_iload_n dX8_goes_3 rfl ?_
    refine v_sipush (v := nI 272) dX8_goes_4 (by decide) ?_
    refine v_icmp_geN (tgt := 50) dX8_goes_7 (by decide) (by omega) (by omega) (fun b7 => ?_) (fun b7 => ?_)
    ·
      have e1 : i = 240 := by omega
      subst e1
      refine v_aload_n dX8_goes_50 rfl ?_
      refine v_get 0 dX8_goes_51 FTX8 (by decide) rfl fl_X8_7 (hM.st _).1 rfl ?_
      refine v_iload_n dX8_goes_54 rfl ?_
      refine u_rS1 oX8_paper dX8_goes_55 ml_X8_49 (c_paper k) (by decide) (Nat.le_of_ble_eq_true rfl) (Nat.le_refl _) (Nat.le_refl _) ?_
      refine v_iconst (v := -1) dX8_goes_58 (by decide) ?_
      refine v_iast _ dX8_goes_59 (hM.st _).2.1 rfl (by omega) (by decide) ?_
      refine v_eqw (wu_wu _ _ _ _).symm ?_
      refine v_ret dX8_goes_60 rfl (Nat.le_refl _) (Nat.le_refl _) ?_
      exact ⟨rfl, rfl, rfl⟩
    ·
      refine v_aload_n dX8_goes_10 rfl ?_
      refine v_get 0 dX8_goes_11 FTX8 (by decide) rfl fl_X8_7 (hM.st _).1 rfl ?_
      refine v_iload_n dX8_goes_14 rfl ?_
      refine v_aload_n dX8_goes_15 rfl ?_
      refine v_get 0 dX8_goes_16 FTX8 (by decide) rfl fl_X8_7 (hM.st _).1 rfl ?_
      refine v_iload_n dX8_goes_19 rfl ?_
      refine v_ialdE _ dX8_goes_20 (hM.st _).2.1 rfl (by omega) (by decide) (gv_at _ _ _) ?_
      refine v_aload_n dX8_goes_21 rfl ?_
      refine v_get 0 dX8_goes_22 FTX8 (by decide) rfl fl_X8_7 (hM.st _).1 rfl ?_
      refine v_iload_n dX8_goes_25 rfl ?_
      refine u_rS1 oX8_paper dX8_goes_26 ml_X8_49 (c_paper k) (by decide) (Nat.le_of_ble_eq_true rfl) (Nat.le_refl _) (Nat.le_refl _) ?_
      refine v_ialdE _ dX8_goes_29 (hM.st _).2.1 rfl (by omega) (by decide) (gv_out _ _ (by omega)) ?_
      refine v_icmp_ne (tgt := 37) dX8_goes_30 (by decide) (fun b30 => ?_) (fun b30 => ?_)
      ·
        have q := (gv_F b30).symm
        refine v_aload_n dX8_goes_37 rfl ?_
        refine v_get 0 dX8_goes_38 FTX8 (by decide) rfl fl_X8_7 (hM.st _).1 rfl ?_
        refine v_iload_n dX8_goes_41 rfl ?_
        refine v_ialdE _ dX8_goes_42 (hM.st _).2.1 rfl (by omega) (by decide) (gv_at _ _ _) ?_
        refine v_iast _ dX8_goes_43 (hM.st _).2.1 rfl (by omega) (by decide) ?_
        refine v_eqw (wu_wu _ _ _ _).symm ?_
        refine v_iincN dX8_goes_44 (by decide) rfl rfl rfl ?_
        refine v_goto (tgt := 3) dX8_goes_47 (by decide) ?_
        refine v_sg q ?_
        exact ih (by omega)
      ·
        have q := (gv_T b30).symm
        refine v_iconst (v := -1) dX8_goes_33 (by decide) ?_
        refine v_goto (tgt := 43) dX8_goes_34 (by decide) ?_
        refine v_iast _ dX8_goes_43 (hM.st _).2.1 rfl (by omega) (by decide) ?_
        refine v_eqw (wu_wu _ _ _ _).symm ?_
        refine v_iincN dX8_goes_44 (by decide) rfl rfl rfl ?_
        refine v_goto (tgt := 3) dX8_goes_47 (by decide) ?_
        refine v_sg q ?_
        exact ih (by omega)
  refine v_sg (gv_0 σ (σ (1808 + 65 * k))) ?_
  exact LP3 0 (Nat.zero_le _)
set_option maxHeartbeats 4000000 in
set_option maxRecDepth 100000 in
theorem c_isTold {w : Wd} {o ns tn : Nat} {kp : Int32} {σ tx cm : Nat → Int32} (hM : MW w o ns tn kp σ tx cm) (a n : Nat) (h : a + tn ≤ 17088) (hn : n < 2147483648) (ht : tn ≤ 60) : Rd mX8_isTold 0 [.ref o, .int (nI a), .int (nI n)] w (some (.int (b2i (told (sft σ a) tx n tn)))) := by
  intro sz
  refine Ev.ofV [some (.ref o), some (.int (nI a)), some (.int (nI n)), none, none] (by decide) (Nat.le_of_ble_eq_true rfl) rfl rfl rfl ?_
  refine v_iload_n dX8_isTold_0 rfl ?_
  refine v_aload_n dX8_isTold_1 rfl ?_
  refine v_get 4 dX8_isTold_2 FTX8 (by decide) rfl fl_X8_56 hM.1 rfl ?_
  refine v_icmp_neN (tgt := 12) dX8_isTold_5 (by decide) (by omega) (by omega) (fun b5 => ?_) (fun b5 => ?_)
  ·
    refine v_iconst (v := nI 0) dX8_isTold_12 (by decide) ?_
    refine v_istore_n dX8_isTold_13 (by decide) rfl ?_
    refine v_iconst (v := nI 0) dX8_isTold_14 (by decide) ?_
    refine v_istore dX8_isTold_15 (by decide) rfl ?_
    have LP17 : ∀ k, k ≤ tn → V mX8_isTold 0 0 0 (fun r' w' z => r' = some (.int (b2i (told (sft σ a) tx n tn))) ∧ w' = w ∧ z = sz) (w) (sz) (0) (0) [some (.ref o), some (.int (nI a)), some (.int (nI n)), some (.int (b2i (decide (n = tn) && al (fun k => sft σ a k == tx k) k))), some (.int (nI k))] [] 17 := by
      refine dn (fun k hk ih => ?_)
      refine v_iload dX8_isTold_17 rfl ?_
      refine v_aload_n dX8_isTold_19 rfl ?_
      refine v_get 4 dX8_isTold_20 FTX8 (by decide) rfl fl_X8_56 hM.1 rfl ?_
      refine v_icmp_geN (tgt := 61) dX8_isTold_23 (by decide) (by omega) (by omega) (fun b23 => ?_) (fun b23 => ?_)
      ·
        have e9 : k = tn := by omega
        subst e9
        refine v_iload_n dX8_isTold_61 rfl ?_
        refine v_zret dX8_isTold_62 rfl (b2i_nar _) (Nat.le_refl _) (Nat.le_refl _) ?_
        exact ⟨rfl, rfl, rfl⟩
      ·
        refine v_iload_n dX8_isTold_26 rfl ?_
        refine v_if_eqB (tgt := 61) dX8_isTold_27 (by decide) (fun b27 => ?_) (fun b27 => ?_)
        ·
          have e8 : (decide (n = tn) && al (fun k => sft σ a k == tx k) tn) = (decide (n = tn) && al (fun k => sft σ a k == tx k) k) := by
            rw [b27]
            cases h0 : decide (n = tn)
            · rfl
            · rw [h0] at b27; exact al_mono hk b27
          refine v_iload_n dX8_isTold_61 rfl ?_
          refine v_zret dX8_isTold_62 rfl (b2i_nar _) (Nat.le_refl _) (Nat.le_refl _) ?_
          exact ⟨by unfold told; rw [e8], rfl, rfl⟩
        ·
          have f1 : n = tn := by simp at b27; exact b27.1
          have f2 : al (fun k => sft σ a k == tx k) k = true := by simp at b27; exact b27.2
          refine v_aload_n dX8_isTold_30 rfl ?_
          refine v_get 0 dX8_isTold_31 FTX8 (by decide) rfl fl_X8_7 hM.1 rfl ?_
          refine v_iload_n dX8_isTold_34 rfl ?_
          refine v_iload dX8_isTold_35 rfl ?_
          refine v_iaddN dX8_isTold_37 ?_
          refine v_iald _ dX8_isTold_38 hM.2.1 rfl (by omega) (by decide) ?_
          refine v_aload_n dX8_isTold_39 rfl ?_
          refine v_get 3 dX8_isTold_40 FTX8 (by decide) rfl fl_X8_13 hM.1 rfl ?_
          refine v_iload dX8_isTold_43 rfl ?_
          refine v_cald _ dX8_isTold_45 hM.2.2.1 rfl (by omega) (by decide) ?_
          refine v_icmp_ne (tgt := 53) dX8_isTold_46 (by decide) (fun b46 => ?_) (fun b46 => ?_)
          ·
            have f3 : (sft σ a k == tx k) = false := by simp [sft, b46]
            refine v_iconst (v := nI 0) dX8_isTold_53 (by decide) ?_
            refine v_istore_n dX8_isTold_54 (by decide) rfl ?_
            refine v_iincN dX8_isTold_55 (by decide) rfl rfl rfl ?_
            refine v_goto (tgt := 17) dX8_isTold_58 (by decide) ?_
            refine v_eqL ?_ (ih (by omega))
            simp [st, al, b2i, f1, f2, f3]
          ·
            have f3 : (sft σ a k == tx k) = true := by simp [sft, b46]
            refine v_iconst (v := nI 1) dX8_isTold_49 (by decide) ?_
            refine v_goto (tgt := 54) dX8_isTold_50 (by decide) ?_
            refine v_istore_n dX8_isTold_54 (by decide) rfl ?_
            refine v_iincN dX8_isTold_55 (by decide) rfl rfl rfl ?_
            refine v_goto (tgt := 17) dX8_isTold_58 (by decide) ?_
            refine v_eqL ?_ (ih (by omega))
            simp [st, al, b2i, f1, f2, f3]
    refine v_eqL ?_ (LP17 0 (Nat.zero_le _))
    simp [st, al, b2i, b5]
  ·
    refine v_iconst (v := nI 1) dX8_isTold_8 (by decide) ?_
    refine v_goto (tgt := 13) dX8_isTold_9 (by decide) ?_
    refine v_istore_n dX8_isTold_13 (by decide) rfl ?_
    refine v_iconst (v := nI 0) dX8_isTold_14 (by decide) ?_
    refine v_istore dX8_isTold_15 (by decide) rfl ?_
    have LP17 : ∀ k, k ≤ tn → V mX8_isTold 0 0 0 (fun r' w' z => r' = some (.int (b2i (told (sft σ a) tx n tn))) ∧ w' = w ∧ z = sz) (w) (sz) (0) (0) [some (.ref o), some (.int (nI a)), some (.int (nI n)), some (.int (b2i (decide (n = tn) && al (fun k => sft σ a k == tx k) k))), some (.int (nI k))] [] 17 := by
      refine dn (fun k hk ih => ?_)
      refine v_iload dX8_isTold_17 rfl ?_
      refine v_aload_n dX8_isTold_19 rfl ?_
      refine v_get 4 dX8_isTold_20 FTX8 (by decide) rfl fl_X8_56 hM.1 rfl ?_
      refine v_icmp_geN (tgt := 61) dX8_isTold_23 (by decide) (by omega) (by omega) (fun b23 => ?_) (fun b23 => ?_)
      ·
        have e9 : k = tn := by omega
        subst e9
        refine v_iload_n dX8_isTold_61 rfl ?_
        refine v_zret dX8_isTold_62 rfl (b2i_nar _) (Nat.le_refl _) (Nat.le_refl _) ?_
        exact ⟨rfl, rfl, rfl⟩
      ·
        refine v_iload_n dX8_isTold_26 rfl ?_
        refine v_if_eqB (tgt := 61) dX8_isTold_27 (by decide) (fun b27 => ?_) (fun b27 => ?_)
        ·
          have e8 : (decide (n = tn) && al (fun k => sft σ a k == tx k) tn) = (decide (n = tn) && al (fun k => sft σ a k == tx k) k) := by
            rw [b27]
            cases h0 : decide (n = tn)
            · rfl
            · rw [h0] at b27; exact al_mono hk b27
          refine v_iload_n dX8_isTold_61 rfl ?_
          refine v_zret dX8_isTold_62 rfl (b2i_nar _) (Nat.le_refl _) (Nat.le_refl _) ?_
          exact ⟨by unfold told; rw [e8], rfl, rfl⟩
        ·
          have f1 : n = tn := by simp at b27; exact b27.1
          have f2 : al (fun k => sft σ a k == tx k) k = true := by simp at b27; exact b27.2
          refine v_aload_n dX8_isTold_30 rfl ?_
          refine v_get 0 dX8_isTold_31 FTX8 (by decide) rfl fl_X8_7 hM.1 rfl ?_
          refine v_iload_n dX8_isTold_34 rfl ?_
          refine v_iload dX8_isTold_35 rfl ?_
          refine v_iaddN dX8_isTold_37 ?_
          refine v_iald _ dX8_isTold_38 hM.2.1 rfl (by omega) (by decide) ?_
          refine v_aload_n dX8_isTold_39 rfl ?_
          refine v_get 3 dX8_isTold_40 FTX8 (by decide) rfl fl_X8_13 hM.1 rfl ?_
          refine v_iload dX8_isTold_43 rfl ?_
          refine v_cald _ dX8_isTold_45 hM.2.2.1 rfl (by omega) (by decide) ?_
          refine v_icmp_ne (tgt := 53) dX8_isTold_46 (by decide) (fun b46 => ?_) (fun b46 => ?_)
          ·
            have f3 : (sft σ a k == tx k) = false := by simp [sft, b46]
            refine v_iconst (v := nI 0) dX8_isTold_53 (by decide) ?_
            refine v_istore_n dX8_isTold_54 (by decide) rfl ?_
            refine v_iincN dX8_isTold_55 (by decide) rfl rfl rfl ?_
            refine v_goto (tgt := 17) dX8_isTold_58 (by decide) ?_
            refine v_eqL ?_ (ih (by omega))
            simp [st, al, b2i, f1, f2, f3]
          ·
            have f3 : (sft σ a k == tx k) = true := by simp [sft, b46]
            refine v_iconst (v := nI 1) dX8_isTold_49 (by decide) ?_
            refine v_goto (tgt := 54) dX8_isTold_50 (by decide) ?_
            refine v_istore_n dX8_isTold_54 (by decide) rfl ?_
            refine v_iincN dX8_isTold_55 (by decide) rfl rfl rfl ?_
            refine v_goto (tgt := 17) dX8_isTold_58 (by decide) ?_
            refine v_eqL ?_ (ih (by omega))
            simp [st, al, b2i, f1, f2, f3]
    refine v_eqL ?_ (LP17 0 (Nat.zero_le _))
    simp [st, al, b2i, b5]
set_option maxHeartbeats 4000000 in
set_option maxRecDepth 100000 in
theorem c_lays {w : Wd} {o ns tn : Nat} {kp : Int32} {σ tx cm : Nat → Int32} (hM : MW w o ns tn kp σ tx cm) (a : Nat) (h : a + tn ≤ 17088) (ht : tn ≤ 60) : Wr mX8_lays 0 [.ref o, .int (nI a)] w (fun r' w' => r' = none ∧ w' = wu w (o + 1) (ia 1 17088 (lay σ tx a tn))) := by
  intro sz
  refine Ev.ofV [some (.ref o), some (.int (nI a)), none] (by decide) (Nat.le_of_ble_eq_true rfl) rfl rfl rfl ?_
  refine v_eqw hM.self ?_
  refine v_iconst (v := nI 0) dX8_lays_0 (by decide) ?_
  refine v_istore_n dX8_lays_1 (by decide) rfl ?_
  have LP2 : ∀ i, i ≤ tn → V mX8_lays 0 0 0 (fun r' w' z => z = sz ∧ r' = none ∧ w' = wu w (o + 1) (ia 1 17088 (lay σ tx a tn))) (wu w (o + 1) (ia 1 17088 (lay σ tx a i))) (sz) (0) (0) [some (.ref o), some (.int (nI a)), some (.int (nI i))] [] 2 := by
    refine dn (fun i hi ih => ?_)
    refine v_iload_n dX8_lays_2 rfl ?_
    refine v_aload_n dX8_lays_3 rfl ?_
    refine v_get 4 dX8_lays_4 FTX8 (by decide) rfl fl_X8_56 (hM.st _).1 rfl ?_
    refine v_icmp_geN (tgt := 30) dX8_lays_7 (by decide) (by omega) (by omega) (fun b7 => ?_) (fun b7 => ?_)
    ·
      have e1 : i = tn := by omega
      subst e1
      refine v_ret dX8_lays_30 rfl (Nat.le_refl _) (Nat.le_refl _) ?_
      exact ⟨rfl, rfl, rfl⟩
    ·
      refine v_aload_n dX8_lays_10 rfl ?_
      refine v_get 0 dX8_lays_11 FTX8 (by decide) rfl fl_X8_7 (hM.st _).1 rfl ?_
      refine v_iload_n dX8_lays_14 rfl ?_
      refine v_iload_n dX8_lays_15 rfl ?_
      refine v_iaddN dX8_lays_16 ?_
      refine v_aload_n dX8_lays_17 rfl ?_
      refine v_get 3 dX8_lays_18 FTX8 (by decide) rfl fl_X8_13 (hM.st _).1 rfl ?_
      refine v_iload_n dX8_lays_21 rfl ?_
      refine v_cald _ dX8_lays_22 (hM.st _).2.2.1 rfl (by omega) (by decide) ?_
      refine v_iast _ dX8_lays_23 (hM.st _).2.1 rfl (by omega) (by decide) ?_
      refine v_eqw (wu_wu _ _ _ _).symm ?_
      refine v_iincN dX8_lays_24 (by decide) rfl rfl rfl ?_
      refine v_goto (tgt := 2) dX8_lays_27 (by decide) ?_
      refine v_sg (lay_S σ tx a i).symm ?_
      exact ih (by omega)
  refine v_sg (lay_0 σ tx a) ?_
  exact LP2 0 (Nat.zero_le _)
set_option maxHeartbeats 4000000 in
set_option maxRecDepth 100000 in
theorem c_wordsTold {w : Wd} {o ns tn : Nat} {kp : Int32} {σ tx cm : Nat → Int32} (hM : MW w o ns tn kp σ tx cm) (ht : tn ≤ 60) : Rd mX8_wordsTold 0 [.ref o] w (some (.int (nI (1 + cnt (bl tx) tn)))) := by
  intro sz
  refine Ev.ofV [some (.ref o), none, none] (by decide) (Nat.le_of_ble_eq_true rfl) rfl rfl rfl ?_
  refine v_iconst (v := nI 1) dX8_wordsTold_0 (by decide) ?_
  refine v_istore_n dX8_wordsTold_1 (by decide) rfl ?_
  refine v_iconst (v := nI 0) dX8_wordsTold_2 (by decide) ?_
  refine v_istore_n dX8_wordsTold_3 (by decide) rfl ?_
  have LP4 : ∀ i, i ≤ tn → V mX8_wordsTold 0 0 0 (fun r' w' z => r' = some (.int (nI (1 + cnt (bl tx) tn))) ∧ w' = w ∧ z = sz) (w) (sz) (0) (0) [some (.ref o), some (.int (nI (1 + cnt (bl tx) i))), some (.int (nI i))] [] 4 := by
    refine dn (fun i hi ih => ?_)
    refine v_iload_n dX8_wordsTold_4 rfl ?_
    refine v_aload_n dX8_wordsTold_5 rfl ?_
    refine v_get 4 dX8_wordsTold_6 FTX8 (by decide) rfl fl_X8_56 hM.1 rfl ?_
    refine v_icmp_geN (tgt := 37) dX8_wordsTold_9 (by decide) (by omega) (by omega) (fun b9 => ?_) (fun b9 => ?_)
    ·
      refine v_iload_n dX8_wordsTold_37 rfl ?_
      refine v_iret dX8_wordsTold_38 rfl (Nat.le_refl _) (Nat.le_refl _) ?_
      have ei : i = tn := by omega
      subst ei
      exact ⟨rfl, rfl, rfl⟩
    ·
      refine v_iload_n dX8_wordsTold_12 rfl ?_
      refine v_aload_n dX8_wordsTold_13 rfl ?_
      refine v_get 3 dX8_wordsTold_14 FTX8 (by decide) rfl fl_X8_13 hM.1 rfl ?_
      refine v_iload_n dX8_wordsTold_17 rfl ?_
      refine v_cald _ dX8_wordsTold_18 hM.2.2.1 rfl (by omega) (by decide) ?_
      refine v_bipush (v := nI 32) dX8_wordsTold_19 (by decide) ?_
      refine v_icmp_ne (tgt := 28) dX8_wordsTold_21 (by decide) (fun b21 => ?_) (fun b21 => ?_)
      ·
        refine v_iconst (v := nI 0) dX8_wordsTold_28 (by decide) ?_
        refine v_iaddN dX8_wordsTold_29 ?_
        refine v_istore_n dX8_wordsTold_30 (by decide) rfl ?_
        refine v_iincN dX8_wordsTold_31 (by decide) rfl rfl rfl ?_
        refine v_goto (tgt := 4) dX8_wordsTold_34 (by decide) ?_
        refine v_eqL ?_ (ih (by omega))
        simp [st, cnt, Nat.add_assoc, bl, b21]
      ·
        refine v_iconst (v := nI 1) dX8_wordsTold_24 (by decide) ?_
        refine v_goto (tgt := 29) dX8_wordsTold_25 (by decide) ?_
        refine v_iaddN dX8_wordsTold_29 ?_
        refine v_istore_n dX8_wordsTold_30 (by decide) rfl ?_
        refine v_iincN dX8_wordsTold_31 (by decide) rfl rfl rfl ?_
        refine v_goto (tgt := 4) dX8_wordsTold_34 (by decide) ?_
        refine v_eqL ?_ (ih (by omega))
        simp [st, cnt, Nat.add_assoc, bl, b21]
  exact LP4 0 (Nat.zero_le _)
set_option maxHeartbeats 4000000 in
set_option maxRecDepth 100000 in
theorem c_fault {w : Wd} {o ns tn : Nat} {kp : Int32} {σ tx cm : Nat → Int32} (hM : MW w o ns tn kp σ tx cm) (ht : tn ≤ 60) : Rd mX8_fault 1 [.ref o] w (some (.int (flt tx tn))) := by
  intro sz
  refine Ev.ofV [some (.ref o), none, none, none] (by decide) (Nat.le_of_ble_eq_true rfl) rfl rfl rfl ?_
  have hfl := fst_le (fun k => !okc tx k) tn
  refine v_iconst (v := nI 0) dX8_fault_0 (by decide) ?_
  refine v_istore_n dX8_fault_1 (by decide) rfl ?_
  refine v_iconst (v := nI 0) dX8_fault_2 (by decide) ?_
  refine v_istore_n dX8_fault_3 (by decide) rfl ?_
  have LP4 : ∀ i, i ≤ fst (fun k => !okc tx k) tn → V mX8_fault 1 0 0 (fun r' w' z => r' = some (.int (flt tx tn)) ∧ w' = w ∧ z = sz) (w) (sz) (0) (0) [some (.ref o), some (.int (b2i (isw tx i))), some (.int (nI i)), none] [] 4 := by
    refine dn (fun i hi ih => ?_)
    refine v_iload_n dX8_fault_4 rfl ?_
    refine v_aload_n dX8_fault_5 rfl ?_
    refine v_get 4 dX8_fault_6 FTX8 (by decide) rfl fl_X8_56 hM.1 rfl ?_
    refine v_icmp_geN (tgt := 55) dX8_fault_9 (by decide) (by omega) (by omega) (fun b9 => ?_) (fun b9 => ?_)
    ·
      have e1 : i = tn := by omega
      have e2 : fst (fun k => !okc tx k) tn = tn := by omega
      refine v_iload_n dX8_fault_55 rfl ?_
      refine v_if_eqB (tgt := 63) dX8_fault_56 (by decide) (fun b56 => ?_) (fun b56 => ?_)
      ·
        refine v_aload_n dX8_fault_63 rfl ?_
        refine v_get 4 dX8_fault_64 FTX8 (by decide) rfl fl_X8_56 hM.1 rfl ?_
        refine v_iret dX8_fault_67 rfl (Nat.le_refl _) (Nat.le_refl _) ?_
        exact ⟨by unfold flt; rw [if_neg (by omega), if_neg (by rw [← e1, b56]; decide)], rfl, rfl⟩
      ·
        refine v_iconst (v := -1) dX8_fault_59 (by decide) ?_
        refine v_goto (tgt := 67) dX8_fault_60 (by decide) ?_
        refine v_iret dX8_fault_67 rfl (Nat.le_refl _) (Nat.le_refl _) ?_
        exact ⟨by unfold flt; rw [if_neg (by omega), if_pos (by rw [← e1, b56])], rfl, rfl⟩
    ·
      refine v_aload_n dX8_fault_12 rfl ?_
      refine v_get 3 dX8_fault_13 FTX8 (by decide) rfl fl_X8_13 hM.1 rfl ?_
      refine v_iload_n dX8_fault_16 rfl ?_
      refine v_cald _ dX8_fault_17 hM.2.2.1 rfl (by omega) (by decide) ?_
      refine v_bipush (v := nI 97) dX8_fault_18 (by decide) ?_
      refine v_bipush (v := nI 122) dX8_fault_20 (by decide) ?_
      refine u_rS3 oX8_in dX8_fault_22 ml_X8_59 (c_inb (tx i) 97 122) (by decide) (Nat.le_of_ble_eq_true rfl) (Nat.le_refl _) (Nat.le_refl _) ?_
      refine v_istore_n dX8_fault_25 (by decide) rfl ?_
      refine v_iload_n dX8_fault_26 rfl ?_
      refine v_if_neB (tgt := 47) dX8_fault_27 (by decide) (fun b27 => ?_) (fun b27 => ?_)
      ·
        have q5 : i < fst (fun k => !okc tx k) tn := by
          rcases Nat.lt_or_ge i (fst (fun k => !okc tx k) tn) with h1 | h1
          · exact h1
          · have h2 := fst_yes (fun k => !okc tx k) tn (by omega)
            rw [show fst (fun k => !okc tx k) tn = i by omega] at h2
            simp [okc, ltr, b27] at h2
        refine v_iload_n dX8_fault_47 rfl ?_
        refine v_istore_n dX8_fault_48 (by decide) rfl ?_
        refine v_iincN dX8_fault_49 (by decide) rfl rfl rfl ?_
        refine v_goto (tgt := 4) dX8_fault_52 (by decide) ?_
        refine v_drop 3 ?_
        exact ih q5
      ·
        refine v_aload_n dX8_fault_30 rfl ?_
        refine v_get 3 dX8_fault_31 FTX8 (by decide) rfl fl_X8_13 hM.1 rfl ?_
        refine v_iload_n dX8_fault_34 rfl ?_
        refine v_cald _ dX8_fault_35 hM.2.2.1 rfl (by omega) (by decide) ?_
        refine v_bipush (v := nI 32) dX8_fault_36 (by decide) ?_
        refine v_icmp_ne (tgt := 45) dX8_fault_38 (by decide) (fun b38 => ?_) (fun b38 => ?_)
        ·
          have q6 : fst (fun k => !okc tx k) tn = i := by
            rcases Nat.lt_or_ge i (fst (fun k => !okc tx k) tn) with h1 | h1
            · have h2 := fst_no _ _ _ h1
              simp [okc, ltr, b27, bl, b38] at h2
            · omega
          refine v_iload_n dX8_fault_45 rfl ?_
          refine v_iret dX8_fault_46 rfl (Nat.le_refl _) (Nat.le_refl _) ?_
          exact ⟨by unfold flt; rw [q6, if_pos (by omega)], rfl, rfl⟩
        ·
          refine v_iload_n dX8_fault_41 rfl ?_
          refine v_if_neB (tgt := 47) dX8_fault_42 (by decide) (fun b42 => ?_) (fun b42 => ?_)
          ·
            have q5 : i < fst (fun k => !okc tx k) tn := by
              rcases Nat.lt_or_ge i (fst (fun k => !okc tx k) tn) with h1 | h1
              · exact h1
              · have h2 := fst_yes (fun k => !okc tx k) tn (by omega)
                rw [show fst (fun k => !okc tx k) tn = i by omega] at h2
                simp [okc, bl, b38, b42] at h2
            refine v_iload_n dX8_fault_47 rfl ?_
            refine v_istore_n dX8_fault_48 (by decide) rfl ?_
            refine v_iincN dX8_fault_49 (by decide) rfl rfl rfl ?_
            refine v_goto (tgt := 4) dX8_fault_52 (by decide) ?_
            refine v_drop 3 ?_
            exact ih q5
          ·
            have q6 : fst (fun k => !okc tx k) tn = i := by
              rcases Nat.lt_or_ge i (fst (fun k => !okc tx k) tn) with h1 | h1
              · have h2 := fst_no _ _ _ h1
                simp [okc, ltr, b27, b42] at h2
              · omega
            refine v_iload_n dX8_fault_45 rfl ?_
            refine v_iret dX8_fault_46 rfl (Nat.le_refl _) (Nat.le_refl _) ?_
            exact ⟨by unfold flt; rw [q6, if_pos (by omega)], rfl, rfl⟩
  exact LP4 0 (Nat.zero_le _)
