set_option maxHeartbeats 4000000 in
set_option maxRecDepth 100000 in
theorem c_letter_no {w : Wd} {o ns tn : Nat} {kp : Int32} {σ tx cm : Nat → Int32} (hM : MW w o ns tn kp σ tx cm) (x y z : Int32) (h : (inB x 7 && inB y 2) = false) : Rd mX8_letter 2 [.ref o, .int x, .int y, .int z] w (some (.int (letterI σ x y z))) := by
  intro sz
  refine Ev.ofV [some (.ref o), some (.int x), some (.int y), some (.int z), none] (by decide) (Nat.le_of_ble_eq_true rfl) rfl rfl rfl ?_
  refine v_iload_n dX8_letter_0 rfl ?_
  refine v_iload_n dX8_letter_1 rfl ?_
  refine u_rS2 oX8_isPair dX8_letter_2 ml_X8_72 (c_isPair x y) (by decide) (Nat.le_of_ble_eq_true rfl) (Nat.le_refl _) (Nat.le_refl _) ?_
  refine v_if_neB (tgt := 10) dX8_letter_5 (by decide) (fun b5 => ?_) (fun b5 => ?_)
  ·
    exact absurd h (by rw [b5]; decide)
  ·
    refine v_iconst (v := -1) dX8_letter_8 (by decide) ?_
    refine v_iret dX8_letter_9 rfl (Nat.le_refl _) (Nat.le_refl _) ?_
    exact ⟨by unfold letterI; rw [if_neg (by rw [h]; decide)], rfl, rfl⟩
set_option maxHeartbeats 4000000 in
set_option maxRecDepth 100000 in
theorem c_letter_neg {w : Wd} {o ns tn : Nat} {kp : Int32} {σ tx cm : Nat → Int32} (hM : MW w o ns tn kp σ tx cm) (a b : Nat) (ha : a < 8) (hb : b < 3) (z : Int32) (hz : z < 0) : Rd mX8_letter 2 [.ref o, .int (nI a), .int (nI b), .int z] w (some (.int (letterI σ (nI a) (nI b) z))) := by
  intro sz
  refine Ev.ofV [some (.ref o), some (.int (nI a)), some (.int (nI b)), some (.int z), none] (by decide) (Nat.le_of_ble_eq_true rfl) rfl rfl rfl ?_
  have hga : inB (nI a) 7 = true := by rw [inB_nI (by omega) (by omega)]; simp; omega
  have hgb : inB (nI b) 2 = true := by rw [inB_nI (by omega) (by omega)]; simp; omega
  have hgg : (inB (nI a) 7 && inB (nI b) 2) = true := by rw [hga, hgb]; rfl
  refine v_iload_n dX8_letter_0 rfl ?_
  refine v_iload_n dX8_letter_1 rfl ?_
  refine u_rS2 oX8_isPair dX8_letter_2 ml_X8_72 (c_isPair (nI a) (nI b)) (by decide) (Nat.le_of_ble_eq_true rfl) (Nat.le_refl _) (Nat.le_refl _) ?_
  refine v_if_neB (tgt := 10) dX8_letter_5 (by decide) (fun b5 => ?_) (fun b5 => ?_)
  ·
    refine v_iload_n dX8_letter_10 rfl ?_
    refine v_if_ge (tgt := 17) dX8_letter_11 (by decide) (fun b11 => ?_) (fun b11 => ?_)
    ·
      exact absurd hz (Int32.not_lt.mpr b11)
    ·
      refine v_bipush (v := -2) dX8_letter_14 (by decide) ?_
      refine v_iret dX8_letter_16 rfl (Nat.le_refl _) (Nat.le_refl _) ?_
      exact ⟨by unfold letterI; rw [if_pos hgg, if_pos hz], rfl, rfl⟩
  ·
    exact absurd hgg (by rw [b5]; decide)
set_option maxHeartbeats 4000000 in
set_option maxRecDepth 100000 in
theorem c_letter_N {w : Wd} {o ns tn : Nat} {kp : Int32} {σ tx cm : Nat → Int32} (hM : MW w o ns tn kp σ tx cm) (hW : WS σ) (a b c : Nat) (ha : a < 8) (hb : b < 3) (hc : c < 2147483648) : Rd mX8_letter 2 [.ref o, .int (nI a), .int (nI b), .int (nI c)] w (some (.int (letterI σ (nI a) (nI b) (nI c)))) := by
  intro sz
  refine Ev.ofV [some (.ref o), some (.int (nI a)), some (.int (nI b)), some (.int (nI c)), none] (by decide) (Nat.le_of_ble_eq_true rfl) rfl rfl rfl ?_
  have hga : inB (nI a) 7 = true := by rw [inB_nI (by omega) (by omega)]; simp; omega
  have hgb : inB (nI b) 2 = true := by rw [inB_nI (by omega) (by omega)]; simp; omega
  have hgg : (inB (nI a) 7 && inB (nI b) 2) = true := by rw [hga, hgb]; rfl
  refine v_iload_n dX8_letter_0 rfl ?_
  refine v_iload_n dX8_letter_1 rfl ?_
  refine u_rS2 oX8_isPair dX8_letter_2 ml_X8_72 (c_isPair (nI a) (nI b)) (by decide) (Nat.le_of_ble_eq_true rfl) (Nat.le_refl _) (Nat.le_refl _) ?_
  refine v_if_neB (tgt := 10) dX8_letter_5 (by decide) (fun b5 => ?_) (fun b5 => ?_)
  ·
    refine v_iload_n dX8_letter_10 rfl ?_
    refine v_if_geN (tgt := 17) dX8_letter_11 (by decide) (by omega) ?_
    refine v_iload_n dX8_letter_17 rfl ?_
    refine v_iload_n dX8_letter_18 rfl ?_
    refine u_rS2 oX8_rowOf dX8_letter_19 ml_X8_28 (c_rowOf a b) (by decide) (Nat.le_of_ble_eq_true rfl) (Nat.le_refl _) (Nat.le_refl _) ?_
    refine v_istore dX8_letter_22 (by decide) rfl ?_
    refine v_iload_n dX8_letter_24 rfl ?_
    refine v_aload_n dX8_letter_25 rfl ?_
    refine v_get 0 dX8_letter_26 FTX8 (by decide) rfl fl_X8_7 hM.1 rfl ?_
    refine v_iload dX8_letter_29 rfl ?_
    refine v_ialdN _ dX8_letter_31 hM.2.1 rfl (by omega) (by decide) ((hW.2.2.2.2.2.1 (3 * a + b) (by omega)).1).1 ?_
    refine v_icmp_geN (tgt := 49) dX8_letter_32 (by decide) (by omega) (by have := ((hW.2.2.2.2.2.1 (3 * a + b) (by omega)).1).2; omega) (fun b32 => ?_) (fun b32 => ?_)
    ·
      refine v_bipush (v := -5) dX8_letter_49 (by decide) ?_
      refine v_iret dX8_letter_51 rfl (Nat.le_refl _) (Nat.le_refl _) ?_
      exact ⟨by unfold letterI; rw [if_pos hgg, if_neg (nI_nlt0 hc), nt_nI (n := a) (by omega), nt_nI (n := b) (by omega), nt_nI hc, if_neg (by unfold ln; omega)], rfl, rfl⟩
    ·
      refine v_aload_n dX8_letter_35 rfl ?_
      refine v_get 0 dX8_letter_36 FTX8 (by decide) rfl fl_X8_7 hM.1 rfl ?_
      refine v_iload dX8_letter_39 rfl ?_
      refine v_iconst (v := nI 4) dX8_letter_41 (by decide) ?_
      refine v_iaddN dX8_letter_42 ?_
      refine v_iload_n dX8_letter_43 rfl ?_
      refine v_iaddN dX8_letter_44 ?_
      refine v_iald _ dX8_letter_45 hM.2.1 rfl (by have := ((hW.2.2.2.2.2.1 (3 * a + b) (by omega)).1).2; omega) (by decide) ?_
      refine v_goto (tgt := 51) dX8_letter_46 (by decide) ?_
      refine v_iret dX8_letter_51 rfl (Nat.le_refl _) (Nat.le_refl _) ?_
      exact ⟨by unfold letterI; rw [if_pos hgg, if_neg (nI_nlt0 hc), nt_nI (n := a) (by omega), nt_nI (n := b) (by omega), nt_nI hc, if_pos (by unfold ln; omega)], rfl, rfl⟩
  ·
    exact absurd hgg (by rw [b5]; decide)
theorem nn_nI {z : Int32} (h : ¬ z < 0) : z = nI (nt z) ∧ nt z < 2147483648 := by
  have h1 := Int32.le_iff_toInt_le.mp (Int32.not_lt.mp h)
  rw [Int32.toInt_zero] at h1
  have h2 : z.toInt < 2147483648 := Int32.toInt_lt z
  have h3 : nt z < 2147483648 := by
    show z.toInt.toNat < _
    omega
  refine ⟨?_, h3⟩
  apply Int32.toInt_inj.mp
  rw [nI_toInt h3]
  show z.toInt = ((z.toInt.toNat : Nat) : Int)
  omega
theorem c_letter {w : Wd} {o ns tn : Nat} {kp : Int32} {σ tx cm : Nat → Int32} (hM : MW w o ns tn kp σ tx cm) (hW : WS σ) (x y z : Int32) : Rd mX8_letter 2 [.ref o, .int x, .int y, .int z] w (some (.int (letterI σ x y z))) := by
  by_cases h : (inB x 7 && inB y 2) = false
  · exact c_letter_no hM x y z h
  · have h2 := bfalse h
    simp only [Bool.and_eq_true] at h2
    have hx := inB_ub (by omega) h2.1
    have hy := inB_ub (by omega) h2.2
    rw [hx.1, hy.1]
    by_cases h3 : z < 0
    · exact c_letter_neg hM (nt x) (nt y) hx.2 hy.2 z h3
    · have hz := nn_nI h3
      rw [hz.1]
      exact c_letter_N hM hW (nt x) (nt y) (nt z) hx.2 hy.2 hz.2
set_option maxHeartbeats 4000000 in
set_option maxRecDepth 100000 in
theorem c_labelOf_no {w : Wd} {o ns tn : Nat} {kp : Int32} {σ tx cm : Nat → Int32} (hM : MW w o ns tn kp σ tx cm) (x y z : Int32) (h : (inB x 7 && inB y 2) = false) : Rd mX8_labelOf 2 [.ref o, .int x, .int y, .int z] w (some (.int (labelOfI σ x y z))) := by
  intro sz
  refine Ev.ofV [some (.ref o), some (.int x), some (.int y), some (.int z), none] (by decide) (Nat.le_of_ble_eq_true rfl) rfl rfl rfl ?_
  refine v_iload_n dX8_labelOf_0 rfl ?_
  refine v_iload_n dX8_labelOf_1 rfl ?_
  refine u_rS2 oX8_isPair dX8_labelOf_2 ml_X8_72 (c_isPair x y) (by decide) (Nat.le_of_ble_eq_true rfl) (Nat.le_refl _) (Nat.le_refl _) ?_
  refine v_if_neB (tgt := 10) dX8_labelOf_5 (by decide) (fun b5 => ?_) (fun b5 => ?_)
  ·
    exact absurd h (by rw [b5]; decide)
  ·
    refine v_iconst (v := -1) dX8_labelOf_8 (by decide) ?_
    refine v_iret dX8_labelOf_9 rfl (Nat.le_refl _) (Nat.le_refl _) ?_
    exact ⟨by unfold labelOfI; rw [if_neg (by rw [h]; decide)], rfl, rfl⟩
set_option maxHeartbeats 4000000 in
set_option maxRecDepth 100000 in
theorem c_labelOf_out {w : Wd} {o ns tn : Nat} {kp : Int32} {σ tx cm : Nat → Int32} (hM : MW w o ns tn kp σ tx cm) (a b : Nat) (ha : a < 8) (hb : b < 3) (z : Int32) (hz : inB z 4 = false) : Rd mX8_labelOf 2 [.ref o, .int (nI a), .int (nI b), .int z] w (some (.int (labelOfI σ (nI a) (nI b) z))) := by
  intro sz
  refine Ev.ofV [some (.ref o), some (.int (nI a)), some (.int (nI b)), some (.int z), none] (by decide) (Nat.le_of_ble_eq_true rfl) rfl rfl rfl ?_
  have hga : inB (nI a) 7 = true := by rw [inB_nI (by omega) (by omega)]; simp; omega
  have hgb : inB (nI b) 2 = true := by rw [inB_nI (by omega) (by omega)]; simp; omega
  have hgg : (inB (nI a) 7 && inB (nI b) 2) = true := by rw [hga, hgb]; rfl
  refine v_iload_n dX8_labelOf_0 rfl ?_
  refine v_iload_n dX8_labelOf_1 rfl ?_
  refine u_rS2 oX8_isPair dX8_labelOf_2 ml_X8_72 (c_isPair (nI a) (nI b)) (by decide) (Nat.le_of_ble_eq_true rfl) (Nat.le_refl _) (Nat.le_refl _) ?_
  refine v_if_neB (tgt := 10) dX8_labelOf_5 (by decide) (fun b5 => ?_) (fun b5 => ?_)
  ·
    refine v_iload_n dX8_labelOf_10 rfl ?_
    refine v_iconst (v := nI 0) dX8_labelOf_11 (by decide) ?_
    refine v_iconst (v := nI 4) dX8_labelOf_12 (by decide) ?_
    refine u_rS3 oX8_in dX8_labelOf_13 ml_X8_59 (c_inB z 4) (by decide) (Nat.le_of_ble_eq_true rfl) (Nat.le_refl _) (Nat.le_refl _) ?_
    refine v_if_neB (tgt := 22) dX8_labelOf_16 (by decide) (fun b16 => ?_) (fun b16 => ?_)
    ·
      exact absurd b16 (by rw [hz]; decide)
    ·
      refine v_bipush (v := -2) dX8_labelOf_19 (by decide) ?_
      refine v_iret dX8_labelOf_21 rfl (Nat.le_refl _) (Nat.le_refl _) ?_
      exact ⟨by unfold labelOfI; rw [if_pos hgg, if_neg (by rw [hz]; decide)], rfl, rfl⟩
  ·
    exact absurd hgg (by rw [b5]; decide)
set_option maxHeartbeats 4000000 in
set_option maxRecDepth 100000 in
theorem c_labelOf0 {w : Wd} {o ns tn : Nat} {kp : Int32} {σ tx cm : Nat → Int32} (hM : MW w o ns tn kp σ tx cm) (hW : WS σ) (a b : Nat) (ha : a < 8) (hb : b < 3) : Rd mX8_labelOf 2 [.ref o, .int (nI a), .int (nI b), .int (nI 0)] w (some (.int (labelOfI σ (nI a) (nI b) (nI 0)))) := by
  intro sz
  refine Ev.ofV [some (.ref o), some (.int (nI a)), some (.int (nI b)), some (.int (nI 0)), none] (by decide) (Nat.le_of_ble_eq_true rfl) rfl rfl rfl ?_
  have hga : inB (nI a) 7 = true := by rw [inB_nI (by omega) (by omega)]; simp; omega
  have hgb : inB (nI b) 2 = true := by rw [inB_nI (by omega) (by omega)]; simp; omega
  have hgg : (inB (nI a) 7 && inB (nI b) 2) = true := by rw [hga, hgb]; rfl
  refine v_iload_n dX8_labelOf_0 rfl ?_
  refine v_iload_n dX8_labelOf_1 rfl ?_
  refine u_rS2 oX8_isPair dX8_labelOf_2 ml_X8_72 (c_isPair (nI a) (nI b)) (by decide) (Nat.le_of_ble_eq_true rfl) (Nat.le_refl _) (Nat.le_refl _) ?_
  refine v_if_neB (tgt := 10) dX8_labelOf_5 (by decide) (fun b5 => ?_) (fun b5 => ?_)
  ·
    refine v_iload_n dX8_labelOf_10 rfl ?_
    refine v_iconst (v := nI 0) dX8_labelOf_11 (by decide) ?_
    refine v_iconst (v := nI 4) dX8_labelOf_12 (by decide) ?_
    refine u_rS3 oX8_in dX8_labelOf_13 ml_X8_59 (c_inB (nI 0) 4) (by decide) (Nat.le_of_ble_eq_true rfl) (Nat.le_refl _) (Nat.le_refl _) ?_
    refine v_if_neB (tgt := 22) dX8_labelOf_16 (by decide) (fun b16 => ?_) (fun b16 => ?_)
    ·
      refine v_iload_n dX8_labelOf_22 rfl ?_
      refine v_iload_n dX8_labelOf_23 rfl ?_
      refine u_rS2 oX8_rowOf dX8_labelOf_24 ml_X8_28 (c_rowOf a b) (by decide) (Nat.le_of_ble_eq_true rfl) (Nat.le_refl _) (Nat.le_refl _) ?_
      refine v_istore dX8_labelOf_27 (by decide) rfl ?_
      refine v_aload_n dX8_labelOf_29 rfl ?_
      refine v_get 0 dX8_labelOf_30 FTX8 (by decide) rfl fl_X8_7 hM.1 rfl ?_
      refine v_iload dX8_labelOf_33 rfl ?_
      refine v_ialdN _ dX8_labelOf_35 hM.2.1 rfl (by omega) (by decide) ((hW.2.2.2.2.2.1 (3 * a + b) (by omega)).1).1 ?_
      refine v_if_neN (tgt := 42) dX8_labelOf_36 (by decide) (by have := ((hW.2.2.2.2.2.1 (3 * a + b) (by omega)).1).2; omega) (fun b36 => ?_) (fun b36 => ?_)
      ·
        refine v_iload_n dX8_labelOf_42 rfl ?_
        refine v_tableIn (tgt := 68) (off := 25) dX8_labelOf_43 (by decide) (by decide) (by decide) (by decide) ?_
        refine v_aload_n dX8_labelOf_68 rfl ?_
        refine v_iload_n dX8_labelOf_69 rfl ?_
        refine v_iload_n dX8_labelOf_70 rfl ?_
        refine u_rV2 oX8_wordsOf dX8_labelOf_71 ml_X8_42 (show Rd mX8_wordsOf 1 _ w (some (.int (nI (nwl σ (3 * a + b))))) from c_wordsOf hM a b ⟨ha, hb⟩ ((hW.2.2.2.2.2.1 (3 * a + b) (by omega)).1)) hM.1 (by decide) (Nat.le_of_ble_eq_true rfl) (Nat.le_refl _) (Nat.le_refl _) ?_
        refine v_iret dX8_labelOf_74 rfl (Nat.le_refl _) (Nat.le_refl _) ?_
        exact ⟨by unfold labelOfI; rw [if_pos hgg, if_pos (by decide), nt_nI (by omega), nt_nI (by omega), nt_nI (by omega), if_neg (by unfold ln; exact b36)] <;> rfl, rfl, rfl⟩
      ·
        refine v_bipush (v := -5) dX8_labelOf_39 (by decide) ?_
        refine v_iret dX8_labelOf_41 rfl (Nat.le_refl _) (Nat.le_refl _) ?_
        exact ⟨by unfold labelOfI; rw [if_pos hgg, if_pos (by decide), nt_nI (by omega), nt_nI (by omega), nt_nI (by omega), if_pos (by unfold ln; exact b36)], rfl, rfl⟩
    ·
      exact absurd b16 (by decide)
  ·
    exact absurd hgg (by rw [b5]; decide)
set_option maxHeartbeats 4000000 in
set_option maxRecDepth 100000 in
theorem c_labelOf1 {w : Wd} {o ns tn : Nat} {kp : Int32} {σ tx cm : Nat → Int32} (hM : MW w o ns tn kp σ tx cm) (hW : WS σ) (a b : Nat) (ha : a < 8) (hb : b < 3) : Rd mX8_labelOf 2 [.ref o, .int (nI a), .int (nI b), .int (nI 1)] w (some (.int (labelOfI σ (nI a) (nI b) (nI 1)))) := by
  intro sz
  refine Ev.ofV [some (.ref o), some (.int (nI a)), some (.int (nI b)), some (.int (nI 1)), none] (by decide) (Nat.le_of_ble_eq_true rfl) rfl rfl rfl ?_
  have hga : inB (nI a) 7 = true := by rw [inB_nI (by omega) (by omega)]; simp; omega
  have hgb : inB (nI b) 2 = true := by rw [inB_nI (by omega) (by omega)]; simp; omega
  have hgg : (inB (nI a) 7 && inB (nI b) 2) = true := by rw [hga, hgb]; rfl
  refine v_iload_n dX8_labelOf_0 rfl ?_
  refine v_iload_n dX8_labelOf_1 rfl ?_
  refine u_rS2 oX8_isPair dX8_labelOf_2 ml_X8_72 (c_isPair (nI a) (nI b)) (by decide) (Nat.le_of_ble_eq_true rfl) (Nat.le_refl _) (Nat.le_refl _) ?_
  refine v_if_neB (tgt := 10) dX8_labelOf_5 (by decide) (fun b5 => ?_) (fun b5 => ?_)
  ·
    refine v_iload_n dX8_labelOf_10 rfl ?_
    refine v_iconst (v := nI 0) dX8_labelOf_11 (by decide) ?_
    refine v_iconst (v := nI 4) dX8_labelOf_12 (by decide) ?_
    refine u_rS3 oX8_in dX8_labelOf_13 ml_X8_59 (c_inB (nI 1) 4) (by decide) (Nat.le_of_ble_eq_true rfl) (Nat.le_refl _) (Nat.le_refl _) ?_
    refine v_if_neB (tgt := 22) dX8_labelOf_16 (by decide) (fun b16 => ?_) (fun b16 => ?_)
    ·
      refine v_iload_n dX8_labelOf_22 rfl ?_
      refine v_iload_n dX8_labelOf_23 rfl ?_
      refine u_rS2 oX8_rowOf dX8_labelOf_24 ml_X8_28 (c_rowOf a b) (by decide) (Nat.le_of_ble_eq_true rfl) (Nat.le_refl _) (Nat.le_refl _) ?_
      refine v_istore dX8_labelOf_27 (by decide) rfl ?_
      refine v_aload_n dX8_labelOf_29 rfl ?_
      refine v_get 0 dX8_labelOf_30 FTX8 (by decide) rfl fl_X8_7 hM.1 rfl ?_
      refine v_iload dX8_labelOf_33 rfl ?_
      refine v_ialdN _ dX8_labelOf_35 hM.2.1 rfl (by omega) (by decide) ((hW.2.2.2.2.2.1 (3 * a + b) (by omega)).1).1 ?_
      refine v_if_neN (tgt := 42) dX8_labelOf_36 (by decide) (by have := ((hW.2.2.2.2.2.1 (3 * a + b) (by omega)).1).2; omega) (fun b36 => ?_) (fun b36 => ?_)
      ·
        refine v_iload_n dX8_labelOf_42 rfl ?_
        refine v_tableIn (tgt := 75) (off := 32) dX8_labelOf_43 (by decide) (by decide) (by decide) (by decide) ?_
        refine v_aload_n dX8_labelOf_75 rfl ?_
        refine v_get 0 dX8_labelOf_76 FTX8 (by decide) rfl fl_X8_7 hM.1 rfl ?_
        refine v_iload dX8_labelOf_79 rfl ?_
        refine v_iald _ dX8_labelOf_81 hM.2.1 rfl (by omega) (by decide) ?_
        refine v_iret dX8_labelOf_82 rfl (Nat.le_refl _) (Nat.le_refl _) ?_
        exact ⟨by unfold labelOfI; rw [if_pos hgg, if_pos (by decide), nt_nI (by omega), nt_nI (by omega), nt_nI (by omega), if_neg (by unfold ln; exact b36)] <;> rfl, rfl, rfl⟩
      ·
        refine v_bipush (v := -5) dX8_labelOf_39 (by decide) ?_
        refine v_iret dX8_labelOf_41 rfl (Nat.le_refl _) (Nat.le_refl _) ?_
        exact ⟨by unfold labelOfI; rw [if_pos hgg, if_pos (by decide), nt_nI (by omega), nt_nI (by omega), nt_nI (by omega), if_pos (by unfold ln; exact b36)], rfl, rfl⟩
    ·
      exact absurd b16 (by decide)
  ·
    exact absurd hgg (by rw [b5]; decide)
set_option maxHeartbeats 4000000 in
set_option maxRecDepth 100000 in
theorem c_labelOf2 {w : Wd} {o ns tn : Nat} {kp : Int32} {σ tx cm : Nat → Int32} (hM : MW w o ns tn kp σ tx cm) (hW : WS σ) (a b : Nat) (ha : a < 8) (hb : b < 3) : Rd mX8_labelOf 2 [.ref o, .int (nI a), .int (nI b), .int (nI 2)] w (some (.int (labelOfI σ (nI a) (nI b) (nI 2)))) := by
  intro sz
  refine Ev.ofV [some (.ref o), some (.int (nI a)), some (.int (nI b)), some (.int (nI 2)), none] (by decide) (Nat.le_of_ble_eq_true rfl) rfl rfl rfl ?_
  have hga : inB (nI a) 7 = true := by rw [inB_nI (by omega) (by omega)]; simp; omega
  have hgb : inB (nI b) 2 = true := by rw [inB_nI (by omega) (by omega)]; simp; omega
  have hgg : (inB (nI a) 7 && inB (nI b) 2) = true := by rw [hga, hgb]; rfl
  refine v_iload_n dX8_labelOf_0 rfl ?_
  refine v_iload_n dX8_labelOf_1 rfl ?_
  refine u_rS2 oX8_isPair dX8_labelOf_2 ml_X8_72 (c_isPair (nI a) (nI b)) (by decide) (Nat.le_of_ble_eq_true rfl) (Nat.le_refl _) (Nat.le_refl _) ?_
  refine v_if_neB (tgt := 10) dX8_labelOf_5 (by decide) (fun b5 => ?_) (fun b5 => ?_)
  ·
    refine v_iload_n dX8_labelOf_10 rfl ?_
    refine v_iconst (v := nI 0) dX8_labelOf_11 (by decide) ?_
    refine v_iconst (v := nI 4) dX8_labelOf_12 (by decide) ?_
    refine u_rS3 oX8_in dX8_labelOf_13 ml_X8_59 (c_inB (nI 2) 4) (by decide) (Nat.le_of_ble_eq_true rfl) (Nat.le_refl _) (Nat.le_refl _) ?_
    refine v_if_neB (tgt := 22) dX8_labelOf_16 (by decide) (fun b16 => ?_) (fun b16 => ?_)
    ·
      refine v_iload_n dX8_labelOf_22 rfl ?_
      refine v_iload_n dX8_labelOf_23 rfl ?_
      refine u_rS2 oX8_rowOf dX8_labelOf_24 ml_X8_28 (c_rowOf a b) (by decide) (Nat.le_of_ble_eq_true rfl) (Nat.le_refl _) (Nat.le_refl _) ?_
      refine v_istore dX8_labelOf_27 (by decide) rfl ?_
      refine v_aload_n dX8_labelOf_29 rfl ?_
      refine v_get 0 dX8_labelOf_30 FTX8 (by decide) rfl fl_X8_7 hM.1 rfl ?_
      refine v_iload dX8_labelOf_33 rfl ?_
      refine v_ialdN _ dX8_labelOf_35 hM.2.1 rfl (by omega) (by decide) ((hW.2.2.2.2.2.1 (3 * a + b) (by omega)).1).1 ?_
      refine v_if_neN (tgt := 42) dX8_labelOf_36 (by decide) (by have := ((hW.2.2.2.2.2.1 (3 * a + b) (by omega)).1).2; omega) (fun b36 => ?_) (fun b36 => ?_)
      ·
        refine v_iload_n dX8_labelOf_42 rfl ?_
        refine v_tableIn (tgt := 83) (off := 40) dX8_labelOf_43 (by decide) (by decide) (by decide) (by decide) ?_
        refine v_aload_n dX8_labelOf_83 rfl ?_
        refine v_get 0 dX8_labelOf_84 FTX8 (by decide) rfl fl_X8_7 hM.1 rfl ?_
        refine v_iload dX8_labelOf_87 rfl ?_
        refine v_iconst (v := nI 1) dX8_labelOf_89 (by decide) ?_
        refine v_iaddN dX8_labelOf_90 ?_
        refine v_iald _ dX8_labelOf_91 hM.2.1 rfl (by omega) (by decide) ?_
        refine v_if_ge (tgt := 100) dX8_labelOf_92 (by decide) (fun b92 => ?_) (fun b92 => ?_)
        ·
          refine v_aload_n dX8_labelOf_100 rfl ?_
          refine v_get 0 dX8_labelOf_101 FTX8 (by decide) rfl fl_X8_7 hM.1 rfl ?_
          refine v_iload dX8_labelOf_104 rfl ?_
          refine v_iconst (v := nI 1) dX8_labelOf_106 (by decide) ?_
          refine v_iaddN dX8_labelOf_107 ?_
          refine v_iald _ dX8_labelOf_108 hM.2.1 rfl (by omega) (by decide) ?_
          refine v_iret dX8_labelOf_109 rfl (Nat.le_refl _) (Nat.le_refl _) ?_
          exact ⟨by unfold labelOfI; rw [if_pos hgg, if_pos (by decide), nt_nI (by omega), nt_nI (by omega), nt_nI (by omega), if_neg (by unfold ln; exact b36)]; show _ = some (Value.int (if _ then _ else _)); rw [if_neg (Int32.not_lt.mpr b92)], rfl, rfl⟩
        ·
          refine v_bipush (v := -5) dX8_labelOf_95 (by decide) ?_
          refine v_goto (tgt := 109) dX8_labelOf_97 (by decide) ?_
          refine v_iret dX8_labelOf_109 rfl (Nat.le_refl _) (Nat.le_refl _) ?_
          exact ⟨by unfold labelOfI; rw [if_pos hgg, if_pos (by decide), nt_nI (by omega), nt_nI (by omega), nt_nI (by omega), if_neg (by unfold ln; exact b36)]; show _ = some (Value.int (if _ then _ else _)); rw [if_pos (Int32.not_le.mp b92)], rfl, rfl⟩
      ·
        refine v_bipush (v := -5) dX8_labelOf_39 (by decide) ?_
        refine v_iret dX8_labelOf_41 rfl (Nat.le_refl _) (Nat.le_refl _) ?_
        exact ⟨by unfold labelOfI; rw [if_pos hgg, if_pos (by decide), nt_nI (by omega), nt_nI (by omega), nt_nI (by omega), if_pos (by unfold ln; exact b36)], rfl, rfl⟩
    ·
      exact absurd b16 (by decide)
  ·
    exact absurd hgg (by rw [b5]; decide)
set_option maxHeartbeats 4000000 in
set_option maxRecDepth 100000 in
theorem c_labelOf3 {w : Wd} {o ns tn : Nat} {kp : Int32} {σ tx cm : Nat → Int32} (hM : MW w o ns tn kp σ tx cm) (hW : WS σ) (a b : Nat) (ha : a < 8) (hb : b < 3) : Rd mX8_labelOf 2 [.ref o, .int (nI a), .int (nI b), .int (nI 3)] w (some (.int (labelOfI σ (nI a) (nI b) (nI 3)))) := by
  intro sz
  refine Ev.ofV [some (.ref o), some (.int (nI a)), some (.int (nI b)), some (.int (nI 3)), none] (by decide) (Nat.le_of_ble_eq_true rfl) rfl rfl rfl ?_
  have hga : inB (nI a) 7 = true := by rw [inB_nI (by omega) (by omega)]; simp; omega
  have hgb : inB (nI b) 2 = true := by rw [inB_nI (by omega) (by omega)]; simp; omega
  have hgg : (inB (nI a) 7 && inB (nI b) 2) = true := by rw [hga, hgb]; rfl
  refine v_iload_n dX8_labelOf_0 rfl ?_
  refine v_iload_n dX8_labelOf_1 rfl ?_
  refine u_rS2 oX8_isPair dX8_labelOf_2 ml_X8_72 (c_isPair (nI a) (nI b)) (by decide) (Nat.le_of_ble_eq_true rfl) (Nat.le_refl _) (Nat.le_refl _) ?_
  refine v_if_neB (tgt := 10) dX8_labelOf_5 (by decide) (fun b5 => ?_) (fun b5 => ?_)
  ·
    refine v_iload_n dX8_labelOf_10 rfl ?_
    refine v_iconst (v := nI 0) dX8_labelOf_11 (by decide) ?_
    refine v_iconst (v := nI 4) dX8_labelOf_12 (by decide) ?_
    refine u_rS3 oX8_in dX8_labelOf_13 ml_X8_59 (c_inB (nI 3) 4) (by decide) (Nat.le_of_ble_eq_true rfl) (Nat.le_refl _) (Nat.le_refl _) ?_
    refine v_if_neB (tgt := 22) dX8_labelOf_16 (by decide) (fun b16 => ?_) (fun b16 => ?_)
    ·
      refine v_iload_n dX8_labelOf_22 rfl ?_
      refine v_iload_n dX8_labelOf_23 rfl ?_
      refine u_rS2 oX8_rowOf dX8_labelOf_24 ml_X8_28 (c_rowOf a b) (by decide) (Nat.le_of_ble_eq_true rfl) (Nat.le_refl _) (Nat.le_refl _) ?_
      refine v_istore dX8_labelOf_27 (by decide) rfl ?_
      refine v_aload_n dX8_labelOf_29 rfl ?_
      refine v_get 0 dX8_labelOf_30 FTX8 (by decide) rfl fl_X8_7 hM.1 rfl ?_
      refine v_iload dX8_labelOf_33 rfl ?_
      refine v_ialdN _ dX8_labelOf_35 hM.2.1 rfl (by omega) (by decide) ((hW.2.2.2.2.2.1 (3 * a + b) (by omega)).1).1 ?_
      refine v_if_neN (tgt := 42) dX8_labelOf_36 (by decide) (by have := ((hW.2.2.2.2.2.1 (3 * a + b) (by omega)).1).2; omega) (fun b36 => ?_) (fun b36 => ?_)
      ·
        refine v_iload_n dX8_labelOf_42 rfl ?_
        refine v_tableOut (tgt := 110) dX8_labelOf_43 (by decide) (by decide) ?_
        refine v_aload_n dX8_labelOf_110 rfl ?_
        refine v_get 0 dX8_labelOf_111 FTX8 (by decide) rfl fl_X8_7 hM.1 rfl ?_
        refine v_iload dX8_labelOf_114 rfl ?_
        refine v_iload_n dX8_labelOf_116 rfl ?_
        refine v_iaddN dX8_labelOf_117 ?_
        refine v_iconst (v := nI 1) dX8_labelOf_118 (by decide) ?_
        refine v_isubN dX8_labelOf_119 (by omega) ?_
        refine v_iald _ dX8_labelOf_120 hM.2.1 rfl (by omega) (by decide) ?_
        refine v_iret dX8_labelOf_121 rfl (Nat.le_refl _) (Nat.le_refl _) ?_
        exact ⟨by unfold labelOfI; rw [if_pos hgg, if_pos (by decide), nt_nI (by omega), nt_nI (by omega), nt_nI (by omega), if_neg (by unfold ln; exact b36)] <;> rfl, rfl, rfl⟩
      ·
        refine v_bipush (v := -5) dX8_labelOf_39 (by decide) ?_
        refine v_iret dX8_labelOf_41 rfl (Nat.le_refl _) (Nat.le_refl _) ?_
        exact ⟨by unfold labelOfI; rw [if_pos hgg, if_pos (by decide), nt_nI (by omega), nt_nI (by omega), nt_nI (by omega), if_pos (by unfold ln; exact b36)], rfl, rfl⟩
    ·
      exact absurd b16 (by decide)
  ·
    exact absurd hgg (by rw [b5]; decide)
set_option maxHeartbeats 4000000 in
set_option maxRecDepth 100000 in
theorem c_labelOf4 {w : Wd} {o ns tn : Nat} {kp : Int32} {σ tx cm : Nat → Int32} (hM : MW w o ns tn kp σ tx cm) (hW : WS σ) (a b : Nat) (ha : a < 8) (hb : b < 3) : Rd mX8_labelOf 2 [.ref o, .int (nI a), .int (nI b), .int (nI 4)] w (some (.int (labelOfI σ (nI a) (nI b) (nI 4)))) := by
  intro sz
  refine Ev.ofV [some (.ref o), some (.int (nI a)), some (.int (nI b)), some (.int (nI 4)), none] (by decide) (Nat.le_of_ble_eq_true rfl) rfl rfl rfl ?_
  have hga : inB (nI a) 7 = true := by rw [inB_nI (by omega) (by omega)]; simp; omega
  have hgb : inB (nI b) 2 = true := by rw [inB_nI (by omega) (by omega)]; simp; omega
  have hgg : (inB (nI a) 7 && inB (nI b) 2) = true := by rw [hga, hgb]; rfl
  refine v_iload_n dX8_labelOf_0 rfl ?_
  refine v_iload_n dX8_labelOf_1 rfl ?_
  refine u_rS2 oX8_isPair dX8_labelOf_2 ml_X8_72 (c_isPair (nI a) (nI b)) (by decide) (Nat.le_of_ble_eq_true rfl) (Nat.le_refl _) (Nat.le_refl _) ?_
  refine v_if_neB (tgt := 10) dX8_labelOf_5 (by decide) (fun b5 => ?_) (fun b5 => ?_)
  ·
    refine v_iload_n dX8_labelOf_10 rfl ?_
    refine v_iconst (v := nI 0) dX8_labelOf_11 (by decide) ?_
    refine v_iconst (v := nI 4) dX8_labelOf_12 (by decide) ?_
    refine u_rS3 oX8_in dX8_labelOf_13 ml_X8_59 (c_inB (nI 4) 4) (by decide) (Nat.le_of_ble_eq_true rfl) (Nat.le_refl _) (Nat.le_refl _) ?_
    refine v_if_neB (tgt := 22) dX8_labelOf_16 (by decide) (fun b16 => ?_) (fun b16 => ?_)
    ·
      refine v_iload_n dX8_labelOf_22 rfl ?_
      refine v_iload_n dX8_labelOf_23 rfl ?_
      refine u_rS2 oX8_rowOf dX8_labelOf_24 ml_X8_28 (c_rowOf a b) (by decide) (Nat.le_of_ble_eq_true rfl) (Nat.le_refl _) (Nat.le_refl _) ?_
      refine v_istore dX8_labelOf_27 (by decide) rfl ?_
      refine v_aload_n dX8_labelOf_29 rfl ?_
      refine v_get 0 dX8_labelOf_30 FTX8 (by decide) rfl fl_X8_7 hM.1 rfl ?_
      refine v_iload dX8_labelOf_33 rfl ?_
      refine v_ialdN _ dX8_labelOf_35 hM.2.1 rfl (by omega) (by decide) ((hW.2.2.2.2.2.1 (3 * a + b) (by omega)).1).1 ?_
      refine v_if_neN (tgt := 42) dX8_labelOf_36 (by decide) (by have := ((hW.2.2.2.2.2.1 (3 * a + b) (by omega)).1).2; omega) (fun b36 => ?_) (fun b36 => ?_)
      ·
        refine v_iload_n dX8_labelOf_42 rfl ?_
        refine v_tableOut (tgt := 110) dX8_labelOf_43 (by decide) (by decide) ?_
        refine v_aload_n dX8_labelOf_110 rfl ?_
        refine v_get 0 dX8_labelOf_111 FTX8 (by decide) rfl fl_X8_7 hM.1 rfl ?_
        refine v_iload dX8_labelOf_114 rfl ?_
        refine v_iload_n dX8_labelOf_116 rfl ?_
        refine v_iaddN dX8_labelOf_117 ?_
        refine v_iconst (v := nI 1) dX8_labelOf_118 (by decide) ?_
        refine v_isubN dX8_labelOf_119 (by omega) ?_
        refine v_iald _ dX8_labelOf_120 hM.2.1 rfl (by omega) (by decide) ?_
        refine v_iret dX8_labelOf_121 rfl (Nat.le_refl _) (Nat.le_refl _) ?_
        exact ⟨by unfold labelOfI; rw [if_pos hgg, if_pos (by decide), nt_nI (by omega), nt_nI (by omega), nt_nI (by omega), if_neg (by unfold ln; exact b36)] <;> rfl, rfl, rfl⟩
      ·
        refine v_bipush (v := -5) dX8_labelOf_39 (by decide) ?_
        refine v_iret dX8_labelOf_41 rfl (Nat.le_refl _) (Nat.le_refl _) ?_
        exact ⟨by unfold labelOfI; rw [if_pos hgg, if_pos (by decide), nt_nI (by omega), nt_nI (by omega), nt_nI (by omega), if_pos (by unfold ln; exact b36)], rfl, rfl⟩
    ·
      exact absurd b16 (by decide)
  ·
    exact absurd hgg (by rw [b5]; decide)
theorem c_labelOf {w : Wd} {o ns tn : Nat} {kp : Int32} {σ tx cm : Nat → Int32} (hM : MW w o ns tn kp σ tx cm) (hW : WS σ) (x y z : Int32) : Rd mX8_labelOf 2 [.ref o, .int x, .int y, .int z] w (some (.int (labelOfI σ x y z))) := by
  by_cases h : (inB x 7 && inB y 2) = false
  · exact c_labelOf_no hM x y z h
  · have h2 := bfalse h
    simp only [Bool.and_eq_true] at h2
    have hx := inB_ub (by omega) h2.1
    have hy := inB_ub (by omega) h2.2
    rw [hx.1, hy.1]
    by_cases h3 : inB z 4 = false
    · exact c_labelOf_out hM (nt x) (nt y) hx.2 hy.2 z h3
    · have hz := inB_ub (by omega) (bfalse h3)
      have hz2 := hz.2
      rw [hz.1]
      generalize nt z = c at hz2 ⊢
      match c, hz2 with
      | 0, _ => exact c_labelOf0 hM hW (nt x) (nt y) hx.2 hy.2
      | 1, _ => exact c_labelOf1 hM hW (nt x) (nt y) hx.2 hy.2
      | 2, _ => exact c_labelOf2 hM hW (nt x) (nt y) hx.2 hy.2
      | 3, _ => exact c_labelOf3 hM hW (nt x) (nt y) hx.2 hy.2
      | 4, _ => exact c_labelOf4 hM hW (nt x) (nt y) hx.2 hy.2
theorem flt_ok {f : Nat → Int32} {n : Nat} (hn : n < 2147483648) (h : flt f n < 0) : okT f n := by
  unfold flt at h
  have h0 := fst_le (fun k => !okc f k) n
  by_cases h1 : fst (fun k => !okc f k) n < n
  · rw [if_pos h1] at h
    exact absurd h (nI_nlt0 (by omega))
  · rw [if_neg h1] at h
    by_cases h2 : isw f n = true
    · refine ⟨?_, fun k hk => ?_, h2⟩
      · cases n with
        | zero => simp [isw] at h2
        | succ n => omega
      · have := fst_no (fun k => !okc f k) n k (by omega)
        simpa using this
    · rw [if_neg h2] at h
      exact absurd h (nI_nlt0 hn)
def lwB (σ : Nat → Int32) (tx : Nat → Int32) (tn b a : Nat) : Bool := hsT (sft σ (272 + 64 * (3 * a + b) + 4)) (ln σ (3 * a + b)) tx tn
def labelsWithI (σ : Nat → Int32) (tx : Nat → Int32) (tn : Nat) (y : Int32) : Int32 := if inB y 2 = true then (if flt tx tn < 0 then nI (cnt (lwB σ tx tn (nt y)) 8) else -100 - flt tx tn) else -1
set_option maxHeartbeats 4000000 in
set_option maxRecDepth 100000 in
theorem c_labelsWith_no {w : Wd} {o ns tn : Nat} {kp : Int32} {σ tx cm : Nat → Int32} (hM : MW w o ns tn kp σ tx cm) (y : Int32) (h : inB y 2 = false) : Rd mX8_labelsWith 2 [.ref o, .int y] w (some (.int (labelsWithI σ tx tn y))) := by
  intro sz
  refine Ev.ofV [some (.ref o), some (.int y), none, none] (by decide) (Nat.le_of_ble_eq_true rfl) rfl rfl rfl ?_
  refine v_iload_n dX8_labelsWith_0 rfl ?_
  refine v_iconst (v := nI 0) dX8_labelsWith_1 (by decide) ?_
  refine v_iconst (v := nI 2) dX8_labelsWith_2 (by decide) ?_
  refine u_rS3 oX8_in dX8_labelsWith_3 ml_X8_59 (c_inB y 2) (by decide) (Nat.le_of_ble_eq_true rfl) (Nat.le_refl _) (Nat.le_refl _) ?_
  refine v_if_neB (tgt := 11) dX8_labelsWith_6 (by decide) (fun b6 => ?_) (fun b6 => ?_)
  ·
    exact absurd b6 (by rw [h]; decide)
  ·
    refine v_iconst (v := -1) dX8_labelsWith_9 (by decide) ?_
    refine v_iret dX8_labelsWith_10 rfl (Nat.le_refl _) (Nat.le_refl _) ?_
    exact ⟨by unfold labelsWithI; rw [if_neg (by rw [h]; decide)], rfl, rfl⟩
set_option maxHeartbeats 4000000 in
set_option maxRecDepth 100000 in
theorem c_labelsWithN {w : Wd} {o ns tn : Nat} {kp : Int32} {σ tx cm : Nat → Int32} (hM : MW w o ns tn kp σ tx cm) (hW : WS σ) (ht : tn ≤ 60) (b : Nat) (hb : b < 3) : Rd mX8_labelsWith 2 [.ref o, .int (nI b)] w (some (.int (labelsWithI σ tx tn (nI b)))) := by
  intro sz
  refine Ev.ofV [some (.ref o), some (.int (nI b)), none, none] (by decide) (Nat.le_of_ble_eq_true rfl) rfl rfl rfl ?_
  have hgb : inB (nI b) 2 = true := by rw [inB_nI (by omega) (by omega)]; simp; omega
  refine v_iload_n dX8_labelsWith_0 rfl ?_
  refine v_iconst (v := nI 0) dX8_labelsWith_1 (by decide) ?_
  refine v_iconst (v := nI 2) dX8_labelsWith_2 (by decide) ?_
  refine u_rS3 oX8_in dX8_labelsWith_3 ml_X8_59 (c_inB (nI b) 2) (by decide) (Nat.le_of_ble_eq_true rfl) (Nat.le_refl _) (Nat.le_refl _) ?_
  refine v_if_neB (tgt := 11) dX8_labelsWith_6 (by decide) (fun b6 => ?_) (fun b6 => ?_)
  ·
    refine v_aload_n dX8_labelsWith_11 rfl ?_
    refine u_rV0 oX8_fault dX8_labelsWith_12 ml_X8_78 (c_fault hM ht) hM.1 (by decide) (Nat.le_of_ble_eq_true rfl) (Nat.le_refl _) (Nat.le_refl _) ?_
    refine v_if_lt (tgt := 26) dX8_labelsWith_15 (by decide) (fun b15 => ?_) (fun b15 => ?_)
    ·
      have hok := flt_ok (by omega) b15
      refine v_iconst (v := nI 0) dX8_labelsWith_26 (by decide) ?_
      refine v_istore_n dX8_labelsWith_27 (by decide) rfl ?_
      refine v_iconst (v := nI 0) dX8_labelsWith_28 (by decide) ?_
      refine v_istore_n dX8_labelsWith_29 (by decide) rfl ?_
      have LP30 : ∀ i, i ≤ 8 → V mX8_labelsWith 2 0 0 (fun r' w' zz => r' = some (.int (labelsWithI σ tx tn (nI b))) ∧ w' = w ∧ zz = sz) (w) (sz) (0) (0) [some (.ref o), some (.int (nI b)), some (.int (nI (cnt (lwB σ tx tn b) i))), some (.int (nI i))] [] 30 := by
        refine dn (fun i hi ih => ?_)
        refine v_iload_n dX8_labelsWith_30 rfl ?_
        refine v_bipush (v := nI 8) dX8_labelsWith_31 (by decide) ?_
        refine v_icmp_geN (tgt := 62) dX8_labelsWith_33 (by decide) (by omega) (by omega) (fun b33 => ?_) (fun b33 => ?_)
        ·
          have e8 : i = 8 := by omega
          subst e8
          refine v_iload_n dX8_labelsWith_62 rfl ?_
          refine v_iret dX8_labelsWith_63 rfl (Nat.le_refl _) (Nat.le_refl _) ?_
          exact ⟨by unfold labelsWithI; rw [if_pos hgb, if_pos b15, nt_nI (by omega)], rfl, rfl⟩
        ·
          refine v_iload_n dX8_labelsWith_36 rfl ?_
          refine v_aload_n dX8_labelsWith_37 rfl ?_
          refine v_iload_n dX8_labelsWith_38 rfl ?_
          refine v_iload_n dX8_labelsWith_39 rfl ?_
          refine u_rS2 oX8_rowOf dX8_labelsWith_40 ml_X8_28 (c_rowOf i b) (by decide) (Nat.le_of_ble_eq_true rfl) (Nat.le_refl _) (Nat.le_refl _) ?_
          refine u_rV1 oX8_hasTold dX8_labelsWith_43 ml_X8_137 (show Rd mX8_hasTold 0 _ w (some (.int (b2i (lwB σ tx tn b i)))) from c_hasTold hM (272 + 64 * (3 * i + b)) (ln σ (3 * i + b)) hok ht ⟨(hW.2.2.2.2.2.1 (3 * i + b) (by omega)).1, rfl⟩ (by omega)) hM.1 (by decide) (Nat.le_of_ble_eq_true rfl) (Nat.le_refl _) (Nat.le_refl _) ?_
          refine v_if_eqB (tgt := 53) dX8_labelsWith_46 (by decide) (fun b46 => ?_) (fun b46 => ?_)
          ·
            have q := cn0 (p := lwB σ tx tn b) (i := i) b46
            refine v_iconst (v := nI 0) dX8_labelsWith_53 (by decide) ?_
            refine v_iaddN dX8_labelsWith_54 ?_
            refine v_istore_n dX8_labelsWith_55 (by decide) rfl ?_
            refine v_iincN dX8_labelsWith_56 (by decide) rfl rfl rfl ?_
            refine v_goto (tgt := 30) dX8_labelsWith_59 (by decide) ?_
            refine v_eqL ?_ (ih (by omega))
            rw [← q]
            rfl
          ·
            have q := cn1 (p := lwB σ tx tn b) (i := i) b46
            refine v_iconst (v := nI 1) dX8_labelsWith_49 (by decide) ?_
            refine v_goto (tgt := 54) dX8_labelsWith_50 (by decide) ?_
            refine v_iaddN dX8_labelsWith_54 ?_
            refine v_istore_n dX8_labelsWith_55 (by decide) rfl ?_
            refine v_iincN dX8_labelsWith_56 (by decide) rfl rfl rfl ?_
            refine v_goto (tgt := 30) dX8_labelsWith_59 (by decide) ?_
            refine v_eqL ?_ (ih (by omega))
            rw [← q]
            rfl
      exact LP30 0 (Nat.zero_le _)
    ·
      refine v_bipush (v := -100) dX8_labelsWith_18 (by decide) ?_
      refine v_aload_n dX8_labelsWith_20 rfl ?_
      refine u_rV0 oX8_fault dX8_labelsWith_21 ml_X8_78 (c_fault hM ht) hM.1 (by decide) (Nat.le_of_ble_eq_true rfl) (Nat.le_refl _) (Nat.le_refl _) ?_
      refine v_isub dX8_labelsWith_24 ?_
      refine v_iret dX8_labelsWith_25 rfl (Nat.le_refl _) (Nat.le_refl _) ?_
      exact ⟨by unfold labelsWithI; rw [if_pos hgb, if_neg b15], rfl, rfl⟩
  ·
    exact absurd hgb (by rw [b6]; decide)
theorem c_labelsWith {w : Wd} {o ns tn : Nat} {kp : Int32} {σ tx cm : Nat → Int32} (hM : MW w o ns tn kp σ tx cm) (hW : WS σ) (ht : tn ≤ 60) (y : Int32) : Rd mX8_labelsWith 2 [.ref o, .int y] w (some (.int (labelsWithI σ tx tn y))) := by
  by_cases h : inB y 2 = false
  · exact c_labelsWith_no hM y h
  · have hy := inB_ub (by omega) (bfalse h)
    rw [hy.1]
    exact c_labelsWithN hM hW ht (nt y) hy.2
