set_option maxHeartbeats 4000000 in
set_option maxRecDepth 100000 in
theorem c_cuts {w : Wd} {o ns tn : Nat} {kp : Int32} {σ tx cm : Nat → Int32} (hM : MW w o ns tn kp σ tx cm) (a b : Nat) (h : a < 8 ∧ b < 3) (hr : ub (σ a) 4) (hm : ub (σ (12 + nt (σ a))) 16 ∧ 1 ≤ nt (σ (12 + nt (σ a)))) (hl : ub (σ (272 + 64 * (3 * a + b))) 61) : Wr mX8_cuts 2 [.ref o, .int (nI a), .int (nI b)] w (fun r' w' => r' = some (.int (b2i (cutB σ (3 * a + b) (nt (σ (12 + nt (σ a))))))) ∧ w' = wu w (o + 1) (ia 1 17088 (cutS σ (3 * a + b) (nt (σ (12 + nt (σ a))))))) := by
  intro sz
  refine Ev.ofV [some (.ref o), some (.int (nI a)), some (.int (nI b)), none, none] (by decide) (Nat.le_of_ble_eq_true rfl) rfl rfl rfl ?_
  have hn := nw_le (sft σ (272 + 64 * (3 * a + b) + 4)) (nt (σ (272 + 64 * (3 * a + b))))
  have hl2 := hl.2
  have hm2 := hm.1.2
  refine v_eqw hM.self ?_
  refine v_iload_n dX8_cuts_0 rfl ?_
  refine v_iload_n dX8_cuts_1 rfl ?_
  refine u_rS2 oX8_rowOf dX8_cuts_2 ml_X8_28 (c_rowOf a b) (by decide) (Nat.le_of_ble_eq_true rfl) (Nat.le_refl _) (Nat.le_refl _) ?_
  refine v_istore_n dX8_cuts_5 (by decide) rfl ?_
  refine v_aload_n dX8_cuts_6 rfl ?_
  refine v_get 0 dX8_cuts_7 FTX8 (by decide) rfl fl_X8_7 (hM.st _).1 rfl ?_
  refine v_bipush (v := nI 12) dX8_cuts_10 (by decide) ?_
  refine v_aload_n dX8_cuts_12 rfl ?_
  refine v_get 0 dX8_cuts_13 FTX8 (by decide) rfl fl_X8_7 (hM.st _).1 rfl ?_
  refine v_iload_n dX8_cuts_16 rfl ?_
  refine v_ialdN _ dX8_cuts_17 (hM.st _).2.1 rfl (by omega) (by decide) hr.1 ?_
  refine v_iaddN dX8_cuts_18 ?_
  refine v_ialdN _ dX8_cuts_19 (hM.st _).2.1 rfl (by have := hr.2; omega) (by decide) hm.1.1 ?_
  refine v_istore dX8_cuts_20 (by decide) rfl ?_
  refine v_aload_n dX8_cuts_22 rfl ?_
  refine v_iload_n dX8_cuts_23 rfl ?_
  refine v_iload_n dX8_cuts_24 rfl ?_
  refine u_rV2 oX8_wordsOf dX8_cuts_25 ml_X8_42 (c_wordsOf (hM.st _) a b h hl) (hM.st _).1 (by decide) (Nat.le_of_ble_eq_true rfl) (Nat.le_refl _) (Nat.le_refl _) ?_
  refine v_iload dX8_cuts_28 rfl ?_
  refine v_icmp_gtN (tgt := 35) dX8_cuts_30 (by decide) (by omega) (by omega) (fun b30 => ?_) (fun b30 => ?_)
  ·
    have hB : cutB σ (3 * a + b) (nt (σ (12 + nt (σ a)))) = true := by simpa [cutB] using b30
    have hb := cut_beg b30
    have hp := beg_pos hb hm.2
    refine v_aload_n dX8_cuts_35 rfl ?_
    refine v_get 0 dX8_cuts_36 FTX8 (by decide) rfl fl_X8_7 (hM.st _).1 rfl ?_
    refine v_iload_n dX8_cuts_39 rfl ?_
    refine v_aload_n dX8_cuts_40 rfl ?_
    refine v_iload_n dX8_cuts_41 rfl ?_
    refine v_iconst (v := nI 4) dX8_cuts_42 (by decide) ?_
    refine v_iaddN dX8_cuts_43 ?_
    refine v_aload_n dX8_cuts_44 rfl ?_
    refine v_get 0 dX8_cuts_45 FTX8 (by decide) rfl fl_X8_7 (hM.st _).1 rfl ?_
    refine v_iload_n dX8_cuts_48 rfl ?_
    refine v_ialdN _ dX8_cuts_49 (hM.st _).2.1 rfl (by omega) (by decide) hl.1 ?_
    refine v_iload dX8_cuts_50 rfl ?_
    refine u_rV3 oX8_begin dX8_cuts_52 ml_X8_35 (c_begin (hM.st _) _ _ _ (by omega) hb) (hM.st _).1 (by decide) (Nat.le_of_ble_eq_true rfl) (Nat.le_refl _) (Nat.le_refl _) ?_
    refine v_iconst (v := nI 1) dX8_cuts_55 (by decide) ?_
    refine v_isubN dX8_cuts_56 hp ?_
    refine v_iast _ dX8_cuts_57 (hM.st _).2.1 rfl (by omega) (by decide) ?_
    refine v_eqw (wu_wu _ _ _ _).symm ?_
    refine v_aload_n dX8_cuts_58 rfl ?_
    refine v_get 0 dX8_cuts_59 FTX8 (by decide) rfl fl_X8_7 (hM.st _).1 rfl ?_
    refine v_iload_n dX8_cuts_62 rfl ?_
    refine v_iconst (v := nI 3) dX8_cuts_63 (by decide) ?_
    refine v_iaddN dX8_cuts_64 ?_
    refine v_dup2 dX8_cuts_65 rfl rfl ?_
    refine v_ialdE _ dX8_cuts_66 (hM.st _).2.1 rfl (by omega) (by decide) (up_ne _ _ (by omega)) ?_
    refine v_iconst (v := nI 1) dX8_cuts_67 (by decide) ?_
    refine v_iadd dX8_cuts_68 ?_
    refine v_iast _ dX8_cuts_69 (hM.st _).2.1 rfl (by omega) (by decide) ?_
    refine v_eqw (wu_wu _ _ _ _).symm ?_
    refine v_aload_n dX8_cuts_70 rfl ?_
    refine v_get 0 dX8_cuts_71 FTX8 (by decide) rfl fl_X8_7 (hM.st _).1 rfl ?_
    refine v_bipush (v := nI 21) dX8_cuts_74 (by decide) ?_
    refine v_dup2 dX8_cuts_76 rfl rfl ?_
    refine v_ialdE _ dX8_cuts_77 (hM.st _).2.1 rfl (by omega) (by decide) ((up_ne _ _ (by omega)).trans (up_ne _ _ (by omega))) ?_
    refine v_iconst (v := nI 1) dX8_cuts_78 (by decide) ?_
    refine v_iadd dX8_cuts_79 ?_
    refine v_iast _ dX8_cuts_80 (hM.st _).2.1 rfl (by omega) (by decide) ?_
    refine v_eqw (wu_wu _ _ _ _).symm ?_
    refine v_iconst (v := nI 1) dX8_cuts_81 (by decide) ?_
    refine v_zret dX8_cuts_82 rfl (by decide) (Nat.le_refl _) (Nat.le_refl _) ?_
    exact ⟨rfl, by rw [hB]; rfl, by rw [cutS_T hB]⟩
  ·
    have hB : cutB σ (3 * a + b) (nt (σ (12 + nt (σ a)))) = false := by simpa [cutB] using b30
    refine v_iconst (v := nI 0) dX8_cuts_33 (by decide) ?_
    refine v_zret dX8_cuts_34 rfl (by decide) (Nat.le_refl _) (Nat.le_refl _) ?_
    exact ⟨rfl, by rw [hB]; rfl, by rw [cutS_F hB]⟩
theorem c_cutsI {w : Wd} {o ns tn : Nat} {kp : Int32} {σ tx cm : Nat → Int32} (hM : MW w o ns tn kp σ tx cm) (a lim i : Nat) (h : a < 8 ∧ i < 3) (hr : ub (σ a) 4) (hm : ub (σ (12 + nt (σ a))) 16 ∧ 1 ≤ nt (σ (12 + nt (σ a)))) (hlim : lim = (nt (σ (12 + nt (σ a))))) (hl : ∀ b, b < 3 → ub (σ (272 + 64 * (3 * a + b))) 61) : Wr mX8_cuts 2 [.ref o, .int (nI a), .int (nI i)] (wu w (o + 1) (ia 1 17088 (caS σ a lim i))) (fun r' w' => r' = some (.int (b2i (cutB (caS σ a lim i) (3 * a + i) lim))) ∧ w' = wu w (o + 1) (ia 1 17088 (caS σ a lim (i + 1)))) := by
  have e1 : caS σ a lim i a = σ a := caS_out (by omega) i (fun b hb => ⟨by omega, by omega⟩)
  have e2 : caS σ a lim i (12 + nt (σ a)) = σ (12 + nt (σ a)) := by
    have := hr.2
    exact caS_out (by omega) i (fun b hb => ⟨by omega, by omega⟩)
  have e3 : caS σ a lim i (272 + 64 * (3 * a + i)) = σ (272 + 64 * (3 * a + i)) := caS_out (by omega) i (fun b hb => ⟨by omega, by omega⟩)
  have c := c_cuts (hM.st (caS σ a lim i)) a i h (by rw [e1]; exact hr) (by rw [e1, e2]; exact hm) (by rw [e3]; exact hl i h.2)
  rw [e1, e2, ← hlim] at c
  simp only [wu_wu] at c
  exact c
set_option maxHeartbeats 4000000 in
set_option maxRecDepth 100000 in
theorem c_cutsAll0 {w : Wd} {o ns tn : Nat} {kp : Int32} {σ tx cm : Nat → Int32} (hM : MW w o ns tn kp σ tx cm) (a lim : Nat) (h : a < 8) (hr : ub (σ a) 4) (hm : ub (σ (12 + nt (σ a))) 16 ∧ 1 ≤ nt (σ (12 + nt (σ a)))) (hlim : lim = (nt (σ (12 + nt (σ a))))) (hl : ∀ b, b < 3 → ub (σ (272 + 64 * (3 * a + b))) 61) : Wr mX8_cutsAll 3 [.ref o, .int (nI a)] w (fun r' w' => r' = some (.int (nI (caN σ a lim 3))) ∧ w' = wu w (o + 1) (ia 1 17088 (caS σ a lim 3))) := by
  intro sz
  refine Ev.ofV [some (.ref o), some (.int (nI a)), none, none] (by decide) (Nat.le_of_ble_eq_true rfl) rfl rfl rfl ?_
  refine v_eqw hM.self ?_
  refine v_iconst (v := nI 0) dX8_cutsAll_0 (by decide) ?_
  refine v_istore_n dX8_cutsAll_1 (by decide) rfl ?_
  refine v_iconst (v := nI 0) dX8_cutsAll_2 (by decide) ?_
  refine v_istore_n dX8_cutsAll_3 (by decide) rfl ?_
  have LP4 : ∀ i, i ≤ 3 → V mX8_cutsAll 3 0 0 (fun r' w' z => z = sz ∧ r' = some (.int (nI (caN σ a lim 3))) ∧ w' = wu w (o + 1) (ia 1 17088 (caS σ a lim 3))) (wu w (o + 1) (ia 1 17088 (caS σ a lim i))) (sz) (0) (0) [some (.ref o), some (.int (nI a)), some (.int (nI (caN σ a lim i))), some (.int (nI i))] [] 4 := by
    refine dn (fun i hi ih => ?_)
    refine v_iload_n dX8_cutsAll_4 rfl ?_
    refine v_iconst (v := nI 3) dX8_cutsAll_5 (by decide) ?_
    refine v_icmp_geN (tgt := 32) dX8_cutsAll_6 (by decide) (by omega) (by omega) (fun b6 => ?_) (fun b6 => ?_)
    ·
      have e3 : i = 3 := by omega
      subst e3
      refine v_iload_n dX8_cutsAll_32 rfl ?_
      refine v_iret dX8_cutsAll_33 rfl (Nat.le_refl _) (Nat.le_refl _) ?_
      exact ⟨rfl, rfl, rfl⟩
    ·
      refine v_iload_n dX8_cutsAll_9 rfl ?_
      refine v_aload_n dX8_cutsAll_10 rfl ?_
      refine v_iload_n dX8_cutsAll_11 rfl ?_
      refine v_iload_n dX8_cutsAll_12 rfl ?_
      refine u_wV2 oX8_cuts dX8_cutsAll_13 ml_X8_45 (c_cutsI hM a lim i ⟨h, by omega⟩ hr hm hlim hl) (hM.st _).1 (by decide) (Nat.le_of_ble_eq_true rfl) (Nat.le_refl _) (Nat.le_refl _) ?_
      refine v_if_eqB (tgt := 23) dX8_cutsAll_16 (by decide) (fun b16 => ?_) (fun b16 => ?_)
      ·
        refine v_iconst (v := nI 0) dX8_cutsAll_23 (by decide) ?_
        refine v_iaddN dX8_cutsAll_24 ?_
        refine v_istore_n dX8_cutsAll_25 (by decide) rfl ?_
        refine v_iincN dX8_cutsAll_26 (by decide) rfl rfl rfl ?_
        refine v_goto (tgt := 4) dX8_cutsAll_29 (by decide) ?_
        refine v_eqL ?_ (ih (by omega))
        simp [st, caN, b16]
      ·
        refine v_iconst (v := nI 1) dX8_cutsAll_19 (by decide) ?_
        refine v_goto (tgt := 24) dX8_cutsAll_20 (by decide) ?_
        refine v_iaddN dX8_cutsAll_24 ?_
        refine v_istore_n dX8_cutsAll_25 (by decide) rfl ?_
        refine v_iincN dX8_cutsAll_26 (by decide) rfl rfl rfl ?_
        refine v_goto (tgt := 4) dX8_cutsAll_29 (by decide) ?_
        refine v_eqL ?_ (ih (by omega))
        simp [st, caN, b16]
  exact LP4 0 (Nat.zero_le _)
