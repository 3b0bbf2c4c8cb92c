theorem AnQ.mk {w w' : Wd} {o tn n : Nat} {kp x : Int32} {tx cm s : Nat → Int32} (h : MW w' o n tn kp s tx cm) (f : frO o w w') : AnQ w o tn kp tx cm (x, n, s) (some (.int x)) w' := ⟨rfl, h, f⟩
set_option maxHeartbeats 400000 in
set_option maxRecDepth 100000 in
theorem c_bring0 {w : Wd} {o ns tn : Nat} {kp : Int32} {σ tx cm : Nat → Int32} (hM : MW w o ns tn kp σ tx cm) (x y : Int32) (h : (inB x 7 && inB y 3) = false) : Wr mX8_bring 4 [.ref o, .int x, .int y] w (AnQ w o tn kp tx cm (bringR σ ns x y)) := by
  intro sz
  refine Ev.ofV [some (.ref o), some (.int x), some (.int y)] (by decide) (Nat.le_of_ble_eq_true rfl) rfl rfl rfl ?_
  refine v_iload_n dX8_bring_0 rfl ?_
  refine v_iconst (v := nI 0) dX8_bring_1 (by decide) ?_
  refine v_bipush (v := nI 7) dX8_bring_2 (by decide) ?_
  refine u_rS3 oX8_in dX8_bring_4 ml_X8_59 (c_inB x 7) (by decide) (Nat.le_of_ble_eq_true rfl) (Nat.le_refl _) (Nat.le_refl _) ?_
  refine v_if_eqB (tgt := 19) dX8_bring_7 (by decide) (fun b7 => ?_) (fun b7 => ?_)
  ·
    refine v_iconst (v := -1) dX8_bring_19 (by decide) ?_
    refine v_iret dX8_bring_20 rfl (Nat.le_refl _) (Nat.le_refl _) ?_
    have e : bringR σ ns x y = (-1, ns, σ) := by
      unfold bringR
      rw [if_neg (by rw [h]; decide)]
    rw [e]
    exact ⟨rfl, rfl, hM, frO.rf o w⟩
  ·
    refine v_iload_n dX8_bring_10 rfl ?_
    refine v_iconst (v := nI 0) dX8_bring_11 (by decide) ?_
    refine v_iconst (v := nI 3) dX8_bring_12 (by decide) ?_
    refine u_rS3 oX8_in dX8_bring_13 ml_X8_59 (c_inB y 3) (by decide) (Nat.le_of_ble_eq_true rfl) (Nat.le_refl _) (Nat.le_refl _) ?_
    refine v_if_neB (tgt := 21) dX8_bring_16 (by decide) (fun b16 => ?_) (fun b16 => ?_)
    ·
      exact absurd h (by rw [b7, b16]; decide)
    ·
      refine v_iconst (v := -1) dX8_bring_19 (by decide) ?_
      refine v_iret dX8_bring_20 rfl (Nat.le_refl _) (Nat.le_refl _) ?_
      have e : bringR σ ns x y = (-1, ns, σ) := by
        unfold bringR
        rw [if_neg (by rw [h]; decide)]
      rw [e]
      exact ⟨rfl, rfl, hM, frO.rf o w⟩
set_option maxHeartbeats 400000 in
set_option maxRecDepth 100000 in
theorem c_bringN {w : Wd} {o ns tn : Nat} {kp : Int32} {σ tx cm : Nat → Int32} (hM : MW w o ns tn kp σ tx cm) (hns : ns ≤ 4) (hW : WS σ) (a b : Nat) (ha : a < 8) (hb : b < 4) : Wr mX8_bring 4 [.ref o, .int (nI a), .int (nI b)] w (AnQ w o tn kp tx cm (bringR σ ns (nI a) (nI b))) := by
  intro sz
  refine Ev.ofV [some (.ref o), some (.int (nI a)), some (.int (nI b))] (by decide) (Nat.le_of_ble_eq_true rfl) rfl rfl rfl ?_
  have hga : inB (nI a) 7 = true := by rw [inB_nI (by omega) (by omega)]; simp; omega
  have hgb : inB (nI b) 3 = true := by rw [inB_nI (by omega) (by omega)]; simp; omega
  have hgg : (inB (nI a) 7 && inB (nI b) 3) = true := by rw [hga, hgb]; rfl
  refine v_iload_n dX8_bring_0 rfl ?_
  refine v_iconst (v := nI 0) dX8_bring_1 (by decide) ?_
  refine v_bipush (v := nI 7) dX8_bring_2 (by decide) ?_
  refine u_rS3 oX8_in dX8_bring_4 ml_X8_59 (c_inB (nI a) 7) (by decide) (Nat.le_of_ble_eq_true rfl) (Nat.le_refl _) (Nat.le_refl _) ?_
  refine v_if_eqB (tgt := 19) dX8_bring_7 (by decide) (fun b7 => ?_) (fun b7 => ?_)
  ·
    exact absurd hga (by rw [b7]; decide)
  ·
    refine v_iload_n dX8_bring_10 rfl ?_
    refine v_iconst (v := nI 0) dX8_bring_11 (by decide) ?_
    refine v_iconst (v := nI 3) dX8_bring_12 (by decide) ?_
    refine u_rS3 oX8_in dX8_bring_13 ml_X8_59 (c_inB (nI b) 3) (by decide) (Nat.le_of_ble_eq_true rfl) (Nat.le_refl _) (Nat.le_refl _) ?_
    refine v_if_neB (tgt := 21) dX8_bring_16 (by decide) (fun b16 => ?_) (fun b16 => ?_)
    ·
      refine v_aload_n dX8_bring_21 rfl ?_
      refine v_get 0 dX8_bring_22 FTX8 (by decide) rfl fl_X8_7 hM.1 rfl ?_
      refine v_iload_n dX8_bring_25 rfl ?_
      refine v_iald _ dX8_bring_26 hM.2.1 rfl (by omega) (by decide) ?_
      refine v_iload_n dX8_bring_27 rfl ?_
      refine v_icmp_ne (tgt := 34) dX8_bring_28 (by decide) (fun b28 => ?_) (fun b28 => ?_)
      ·
        refine v_aload_n dX8_bring_34 rfl ?_
        refine v_wV0 oX8_records dX8_bring_35 ml_X8_63 (c_records hM hns) hM.1 (by decide) (Nat.le_of_ble_eq_true rfl) (Nat.le_refl _) (Nat.le_refl _) (fun r' w1 hq => ?_)
        obtain ⟨rfl, h1, f1⟩ := hq
        obtain ⟨σ1, es⟩ : ∃ s, s = rcS σ ns := ⟨_, rfl⟩
        rw [← es] at h1
        refine v_eqw h1.self ?_
        refine v_aload_n dX8_bring_38 rfl ?_
        refine v_get 0 dX8_bring_39 FTX8 (by decide) rfl fl_X8_7 (h1.st _).1 rfl ?_
        refine v_iload_n dX8_bring_42 rfl ?_
        refine v_iload_n dX8_bring_43 rfl ?_
        refine v_iast _ dX8_bring_44 (h1.st _).2.1 rfl (by omega) (by decide) ?_
        refine v_eqw (wu_wu _ _ _ _).symm ?_
        have hW1 : WS σ1 := by rw [es]; exact hW.rc
        have e1 : upd σ1 a (nI b) a = nI b := up_eq _ _ _
        have e2 : upd σ1 a (nI b) (12 + b) = σ1 (12 + b) := up_ne _ _ (by omega)
        have cc := c_cutsAll0 (h1.st (upd σ1 a (nI b))) a (nt (σ1 (12 + b))) ha (by rw [e1]; exact ub_nI hb (by omega)) (by rw [e1, nt_nI (by omega), e2]; exact hW1.2.2.1 b hb) (by rw [e1, nt_nI (by omega), e2]) (fun b hb => by rw [up_ne _ _ (by omega)]; exact (hW1.2.2.2.2.2.1 _ (by omega)).1)
        simp only [wu_wu] at cc
        refine v_aload_n dX8_bring_45 rfl ?_
        refine v_iload_n dX8_bring_46 rfl ?_
        refine u_wV1 oX8_cutsAll dX8_bring_47 ml_X8_66 cc (h1.st _).1 (by decide) (Nat.le_of_ble_eq_true rfl) (Nat.le_refl _) (Nat.le_refl _) ?_
        refine v_iret dX8_bring_50 rfl (Nat.le_refl _) (Nat.le_refl _) ?_
        have e : bringR σ ns (nI a) (nI b) = (nI (caN (upd σ1 a (nI b)) a (nt (σ1 (12 + b))) 3), rcn ns, caS (upd σ1 a (nI b)) a (nt (σ1 (12 + b))) 3) := by
          subst es
          unfold bringR
          rw [if_pos hgg, nt_nI (by omega), nt_nI (by omega), if_neg b28]
        rw [e]
        have z1 := h1.st (caS (upd σ1 a (nI b)) a (nt (σ1 (12 + b))) 3)
        have z2 := f1.wu (ia 1 17088 (caS (upd σ1 a (nI b)) a (nt (σ1 (12 + b))) 3)) (show o ≤ o + 1 by omega) (show o + 1 < o + 4 by omega)
        exact ⟨rfl, AnQ.mk z1 z2⟩
      ·
        refine v_bipush (v := -5) dX8_bring_31 (by decide) ?_
        refine v_iret dX8_bring_33 rfl (Nat.le_refl _) (Nat.le_refl _) ?_
        have e : bringR σ ns (nI a) (nI b) = (-5, ns, σ) := by
          unfold bringR
          rw [if_pos hgg, nt_nI (by omega), nt_nI (by omega), if_pos b28]
        rw [e]
        exact ⟨rfl, rfl, hM, frO.rf o w⟩
    ·
      exact absurd hgb (by rw [b16]; decide)
theorem c_bring {w : Wd} {o ns tn : Nat} {kp : Int32} {σ tx cm : Nat → Int32} (hM : MW w o ns tn kp σ tx cm) (hns : ns ≤ 4) (hW : WS σ) (x y : Int32) : Wr mX8_bring 4 [.ref o, .int x, .int y] w (AnQ w o tn kp tx cm (bringR σ ns x y)) := by
  by_cases h : (inB x 7 && inB y 3) = false
  · exact c_bring0 hM x y h
  · have h1 : (inB x 7 && inB y 3) = true := by
      cases e : (inB x 7 && inB y 3)
      · exact absurd e h
      · rfl
    have h2 := h1
    simp only [Bool.and_eq_true] at h2
    have hx := inB_ub (by omega) h2.1
    have hy := inB_ub (by omega) h2.2
    rw [hx.1, hy.1]
    exact c_bringN hM hns hW (nt x) (nt y) hx.2 hy.2
