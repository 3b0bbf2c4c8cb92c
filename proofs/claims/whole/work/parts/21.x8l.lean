theorem c_bits {w : Wd} (x : Int32) : Rd mX8_bits 0 [.int x] w (some (.int (bitsI x))) := by
  intro sz
  refine Ev.ofV [some (.int x)] (by decide) (Nat.le_of_ble_eq_true rfl) rfl rfl rfl ?_
  refine v_iload_n dX8_bits_0 rfl ?_
  refine v_iconst (v := nI 1) dX8_bits_1 (by decide) ?_
  refine v_iand dX8_bits_2 ?_
  refine v_iload_n dX8_bits_3 rfl ?_
  refine v_iconst (v := nI 1) dX8_bits_4 (by decide) ?_
  refine v_ishr dX8_bits_5 ?_
  refine v_iconst (v := nI 1) dX8_bits_6 (by decide) ?_
  refine v_iand dX8_bits_7 ?_
  refine v_iadd dX8_bits_8 ?_
  refine v_iload_n dX8_bits_9 rfl ?_
  refine v_iconst (v := nI 2) dX8_bits_10 (by decide) ?_
  refine v_ishr dX8_bits_11 ?_
  refine v_iconst (v := nI 1) dX8_bits_12 (by decide) ?_
  refine v_iand dX8_bits_13 ?_
  refine v_iadd dX8_bits_14 ?_
  refine v_iret dX8_bits_15 rfl (Nat.le_refl _) (Nat.le_refl _) ?_
  exact ⟨rfl, rfl, rfl⟩
theorem ne01 : ¬ nI 0 = nI 1 := by decide
def bringR (σ : Nat → Int32) (ns : Nat) (x y : Int32) : An := if (inB x 7 && inB y 3) = true then (if σ (nt x) = y then (-5, ns, σ) else (nI (caN (upd (rcS σ ns) (nt x) y) (nt x) (nt ((rcS σ ns) (12 + nt y))) 3), rcn ns, caS (upd (rcS σ ns) (nt x) y) (nt x) (nt ((rcS σ ns) (12 + nt y))) 3)) else (-1, ns, σ)
def takeDownR (σ : Nat → Int32) (ns : Nat) (x y : Int32) : An := if (inB x 7 && inB y 2) = true then (if 0 < ln σ (3 * nt x + nt y) then (nI (nwl (rcS σ ns) (3 * nt x + nt y)), rcn ns, upd (rcS σ ns) (272 + 64 * (3 * nt x + nt y)) (nI 0)) else (-5, ns, σ)) else (-1, ns, σ)
/-- the text becomes the label in place p -/
def labS (σ : Nat → Int32) (p : Nat) (tx : Nat → Int32) (tn : Nat) : Nat → Int32 := lay (upd (upd (upd (upd σ (272 + 64 * p) (nI tn)) (272 + 64 * p + 1) (-1)) (272 + 64 * p + 2) (σ 17)) (272 + 64 * p + 3) (nI 0)) tx (272 + 64 * p + 4) tn
def limW (σ : Nat → Int32) (a : Nat) : Nat := nt (σ (12 + nt (σ a)))
def labelR (σ : Nat → Int32) (ns : Nat) (tx : Nat → Int32) (tn : Nat) (x y : Int32) : An := if (inB x 7 && inB y 2) = true then (if flt tx tn < 0 then (if 1 + cnt (bl tx) tn ≤ limW σ (nt x) then (if told (sft σ (272 + 64 * (3 * nt x + nt y) + 4)) tx (ln σ (3 * nt x + nt y)) tn = true then (-5, ns, σ) else (nI (1 + cnt (bl tx) tn), rcn ns, labS (rcS σ ns) (3 * nt x + nt y) tx tn)) else (-6, ns, σ)) else (-100 - flt tx tn, ns, σ)) else (-1, ns, σ)
set_option maxHeartbeats 4000000 in
set_option maxRecDepth 100000 in
theorem c_ask0 {w : Wd} {o ns tn : Nat} {kp : Int32} {σ tx cm : Nat → Int32} (hM : MW w o ns tn kp σ tx cm) (x y : Int32) (t : Bool) (h : (inB x 3 && inB y 2) = false) : Wr mX8_ask 2 [.ref o, .int x, .int y, .int (b2i t)] w (AnQ w o tn kp tx cm (askR σ ns x y t)) := by
  intro sz
  refine Ev.ofV [some (.ref o), some (.int x), some (.int y), some (.int (b2i t))] (by decide) (Nat.le_of_ble_eq_true rfl) rfl rfl rfl ?_
  refine v_iload_n dX8_ask_0 rfl ?_
  refine v_iconst (v := nI 0) dX8_ask_1 (by decide) ?_
  refine v_iconst (v := nI 3) dX8_ask_2 (by decide) ?_
  refine u_rS3 oX8_in dX8_ask_3 ml_X8_59 (c_inB x 3) (by decide) (Nat.le_of_ble_eq_true rfl) (Nat.le_refl _) (Nat.le_refl _) ?_
  refine v_if_eqB (tgt := 18) dX8_ask_6 (by decide) (fun b6 => ?_) (fun b6 => ?_)
  ·
    refine v_iconst (v := -1) dX8_ask_18 (by decide) ?_
    refine v_iret dX8_ask_19 rfl (Nat.le_refl _) (Nat.le_refl _) ?_
    have e : askR σ ns x y t = (-1, ns, σ) := by
      unfold askR
      rw [if_neg (by rw [h]; decide)]
    rw [e]
    exact ⟨rfl, rfl, hM, frO.rf o w⟩
  ·
    refine v_iload_n dX8_ask_9 rfl ?_
    refine v_iconst (v := nI 0) dX8_ask_10 (by decide) ?_
    refine v_iconst (v := nI 2) dX8_ask_11 (by decide) ?_
    refine u_rS3 oX8_in dX8_ask_12 ml_X8_59 (c_inB y 2) (by decide) (Nat.le_of_ble_eq_true rfl) (Nat.le_refl _) (Nat.le_refl _) ?_
    refine v_if_neB (tgt := 20) dX8_ask_15 (by decide) (fun b15 => ?_) (fun b15 => ?_)
    ·
      exact absurd h (by rw [b6, b15]; decide)
    ·
      refine v_iconst (v := -1) dX8_ask_18 (by decide) ?_
      refine v_iret dX8_ask_19 rfl (Nat.le_refl _) (Nat.le_refl _) ?_
      have e : askR σ ns x y t = (-1, ns, σ) := by
        unfold askR
        rw [if_neg (by rw [h]; decide)]
      rw [e]
      exact ⟨rfl, rfl, hM, frO.rf o w⟩
theorem and1_iff (x : Int32) : (x &&& nI 1 = nI 0 ↔ ¬ x &&& nI 1 = nI 1) := by
  rcases and1 x with h | h
  · rw [h]
    decide
  · rw [h]
    decide
set_option maxHeartbeats 4000000 in
set_option maxRecDepth 100000 in
theorem c_askN {w : Wd} {o ns tn : Nat} {kp : Int32} {σ tx cm : Nat → Int32} (hM : MW w o ns tn kp σ tx cm) (hns : ns ≤ 4) (hW : WS σ) (a b : Nat) (t : Bool) (ha : a < 4) (hb : b < 3) : Wr mX8_ask 2 [.ref o, .int (nI a), .int (nI b), .int (b2i t)] w (AnQ w o tn kp tx cm (askR σ ns (nI a) (nI b) t)) := by
  intro sz
  refine Ev.ofV [some (.ref o), some (.int (nI a)), some (.int (nI b)), some (.int (b2i t))] (by decide) (Nat.le_of_ble_eq_true rfl) rfl rfl rfl ?_
  have hga : inB (nI a) 3 = true := by rw [inB_nI (by omega) (by omega)]; simp; omega
  have hgb : inB (nI b) 2 = true := by rw [inB_nI (by omega) (by omega)]; simp; omega
  have hgg : (inB (nI a) 3 && inB (nI b) 2) = true := by rw [hga, hgb]; rfl
  refine v_iload_n dX8_ask_0 rfl ?_
  refine v_iconst (v := nI 0) dX8_ask_1 (by decide) ?_
  refine v_iconst (v := nI 3) dX8_ask_2 (by decide) ?_
  refine u_rS3 oX8_in dX8_ask_3 ml_X8_59 (c_inB (nI a) 3) (by decide) (Nat.le_of_ble_eq_true rfl) (Nat.le_refl _) (Nat.le_refl _) ?_
  refine v_if_eqB (tgt := 18) dX8_ask_6 (by decide) (fun b6 => ?_) (fun b6 => ?_)
  ·
    exact absurd hga (by rw [b6]; decide)
  ·
    refine v_iload_n dX8_ask_9 rfl ?_
    refine v_iconst (v := nI 0) dX8_ask_10 (by decide) ?_
    refine v_iconst (v := nI 2) dX8_ask_11 (by decide) ?_
    refine u_rS3 oX8_in dX8_ask_12 ml_X8_59 (c_inB (nI b) 2) (by decide) (Nat.le_of_ble_eq_true rfl) (Nat.le_refl _) (Nat.le_refl _) ?_
    refine v_if_neB (tgt := 20) dX8_ask_15 (by decide) (fun b15 => ?_) (fun b15 => ?_)
    ·
      refine v_aload_n dX8_ask_20 rfl ?_
      refine v_get 0 dX8_ask_21 FTX8 (by decide) rfl fl_X8_7 hM.1 rfl ?_
      refine v_bipush (v := nI 8) dX8_ask_24 (by decide) ?_
      refine v_iload_n dX8_ask_26 rfl ?_
      refine v_iaddN dX8_ask_27 ?_
      refine v_iald _ dX8_ask_28 hM.2.1 rfl (by omega) (by decide) ?_
      refine v_iload_n dX8_ask_29 rfl ?_
      refine v_ishr dX8_ask_30 ?_
      refine v_iconst (v := nI 1) dX8_ask_31 (by decide) ?_
      refine v_iand dX8_ask_32 ?_
      refine v_iload_n dX8_ask_33 rfl ?_
      refine v_if_eqB (tgt := 41) dX8_ask_34 (by decide) (fun b34 => ?_) (fun b34 => ?_)
      ·
        have g34 : ∀ z : Int32, (z = nI 0 ↔ ¬ z = nI 1) → (decide (z = nI 1) = t ↔ z = nI 0) := by
          intro z hz
          rw [b34, decide_eq_false_iff_not, hz]
        have gL : nI 0 = nI 0 := rfl
        refine v_iconst (v := nI 0) dX8_ask_41 (by decide) ?_
        refine v_icmp_ne (tgt := 48) dX8_ask_42 (by decide) (fun b42 => ?_) (fun b42 => ?_)
        ·
          have g42 : ¬ askB σ a b = t := fun z => b42 ((g34 ((σ (8 + a) >>> (nI b &&& 31)) &&& nI 1) (and1_iff _)).mp z)
          refine v_aload_n dX8_ask_48 rfl ?_
          refine v_wV0 oX8_records dX8_ask_49 ml_X8_63 (c_records hM hns) hM.1 (by decide) (Nat.le_of_ble_eq_true rfl) (Nat.le_refl _) (Nat.le_refl _) (fun r' w1 hq => ?_)
          obtain ⟨rfl, h1, f1⟩ := hq
          obtain ⟨σ1, es⟩ : ∃ s, s = rcS σ ns := ⟨_, rfl⟩
          rw [← es] at h1
          refine v_eqw h1.self ?_
          refine v_aload_n dX8_ask_52 rfl ?_
          refine v_get 0 dX8_ask_53 FTX8 (by decide) rfl fl_X8_7 (h1.st _).1 rfl ?_
          refine v_bipush (v := nI 8) dX8_ask_56 (by decide) ?_
          refine v_iload_n dX8_ask_58 rfl ?_
          refine v_iaddN dX8_ask_59 ?_
          refine v_dup2 dX8_ask_60 rfl rfl ?_
          refine v_ialdE _ dX8_ask_61 (h1.st _).2.1 rfl (by omega) (by decide) (show σ1 (8 + a) = σ (8 + a) from by rw [es]; exact rcS_0 (by omega)) ?_
          refine v_iconst (v := nI 1) dX8_ask_62 (by decide) ?_
          refine v_iload_n dX8_ask_63 rfl ?_
          refine v_ishl dX8_ask_64 ?_
          refine v_ixor dX8_ask_65 ?_
          refine v_iast _ dX8_ask_66 (h1.st _).2.1 rfl (by omega) (by decide) ?_
          refine v_eqw (wu_wu _ _ _ _).symm ?_
          refine v_aload_n dX8_ask_67 rfl ?_
          refine v_get 0 dX8_ask_68 FTX8 (by decide) rfl fl_X8_7 (h1.st _).1 rfl ?_
          refine v_bipush (v := nI 8) dX8_ask_71 (by decide) ?_
          refine v_iload_n dX8_ask_73 rfl ?_
          refine v_iaddN dX8_ask_74 ?_
          refine v_ialdE _ dX8_ask_75 (h1.st _).2.1 rfl (by omega) (by decide) (up_eq _ _ _) ?_
          refine u_rS1 oX8_bits dX8_ask_76 ml_X8_69 (c_bits (σ (8 + a) ^^^ (nI 1 <<< (nI b &&& 31)))) (by decide) (Nat.le_of_ble_eq_true rfl) (Nat.le_refl _) (Nat.le_refl _) ?_
          refine v_iret dX8_ask_79 rfl (Nat.le_refl _) (Nat.le_refl _) ?_
          have e : askR σ ns (nI a) (nI b) t = (bitsI (σ (8 + a) ^^^ (nI 1 <<< (nI b &&& 31))), rcn ns, upd σ1 (8 + a) (σ (8 + a) ^^^ (nI 1 <<< (nI b &&& 31)))) := by
            subst es
            unfold askR
            rw [if_pos hgg, nt_nI (by omega), nt_nI (by omega), if_neg g42]
          rw [e]
          exact ⟨rfl, rfl, h1.st _, f1.wu _ (by omega) (by omega)⟩
        ·
          have g42 : askB σ a b = t := (g34 ((σ (8 + a) >>> (nI b &&& 31)) &&& nI 1) (and1_iff _)).mpr b42
          refine v_bipush (v := -5) dX8_ask_45 (by decide) ?_
          refine v_iret dX8_ask_47 rfl (Nat.le_refl _) (Nat.le_refl _) ?_
          have e : askR σ ns (nI a) (nI b) t = (-5, ns, σ) := by
            unfold askR
            rw [if_pos hgg, nt_nI (by omega), nt_nI (by omega), if_pos g42]
          rw [e]
          exact ⟨rfl, rfl, hM, frO.rf o w⟩
      ·
        have g34 : ∀ z : Int32, (z = nI 0 ↔ ¬ z = nI 1) → (decide (z = nI 1) = t ↔ z = nI 1) := by
          intro z hz
          rw [b34, decide_eq_true_eq]
        refine v_iconst (v := nI 1) dX8_ask_37 (by decide) ?_
        refine v_goto (tgt := 42) dX8_ask_38 (by decide) ?_
        refine v_icmp_ne (tgt := 48) dX8_ask_42 (by decide) (fun b42 => ?_) (fun b42 => ?_)
        ·
          have g42 : ¬ askB σ a b = t := fun z => b42 ((g34 ((σ (8 + a) >>> (nI b &&& 31)) &&& nI 1) (and1_iff _)).mp z)
          refine v_aload_n dX8_ask_48 rfl ?_
          refine v_wV0 oX8_records dX8_ask_49 ml_X8_63 (c_records hM hns) hM.1 (by decide) (Nat.le_of_ble_eq_true rfl) (Nat.le_refl _) (Nat.le_refl _) (fun r' w1 hq => ?_)
          obtain ⟨rfl, h1, f1⟩ := hq
          obtain ⟨σ1, es⟩ : ∃ s, s = rcS σ ns := ⟨_, rfl⟩
          rw [← es] at h1
          refine v_eqw h1.self ?_
          refine v_aload_n dX8_ask_52 rfl ?_
          refine v_get 0 dX8_ask_53 FTX8 (by decide) rfl fl_X8_7 (h1.st _).1 rfl ?_
          refine v_bipush (v := nI 8) dX8_ask_56 (by decide) ?_
          refine v_iload_n dX8_ask_58 rfl ?_
          refine v_iaddN dX8_ask_59 ?_
          refine v_dup2 dX8_ask_60 rfl rfl ?_
          refine v_ialdE _ dX8_ask_61 (h1.st _).2.1 rfl (by omega) (by decide) (show σ1 (8 + a) = σ (8 + a) from by rw [es]; exact rcS_0 (by omega)) ?_
          refine v_iconst (v := nI 1) dX8_ask_62 (by decide) ?_
          refine v_iload_n dX8_ask_63 rfl ?_
          refine v_ishl dX8_ask_64 ?_
          refine v_ixor dX8_ask_65 ?_
          refine v_iast _ dX8_ask_66 (h1.st _).2.1 rfl (by omega) (by decide) ?_
          refine v_eqw (wu_wu _ _ _ _).symm ?_
          refine v_aload_n dX8_ask_67 rfl ?_
          refine v_get 0 dX8_ask_68 FTX8 (by decide) rfl fl_X8_7 (h1.st _).1 rfl ?_
          refine v_bipush (v := nI 8) dX8_ask_71 (by decide) ?_
          refine v_iload_n dX8_ask_73 rfl ?_
          refine v_iaddN dX8_ask_74 ?_
          refine v_ialdE _ dX8_ask_75 (h1.st _).2.1 rfl (by omega) (by decide) (up_eq _ _ _) ?_
          refine u_rS1 oX8_bits dX8_ask_76 ml_X8_69 (c_bits (σ (8 + a) ^^^ (nI 1 <<< (nI b &&& 31)))) (by decide) (Nat.le_of_ble_eq_true rfl) (Nat.le_refl _) (Nat.le_refl _) ?_
          refine v_iret dX8_ask_79 rfl (Nat.le_refl _) (Nat.le_refl _) ?_
          have e : askR σ ns (nI a) (nI b) t = (bitsI (σ (8 + a) ^^^ (nI 1 <<< (nI b &&& 31))), rcn ns, upd σ1 (8 + a) (σ (8 + a) ^^^ (nI 1 <<< (nI b &&& 31)))) := by
            subst es
            unfold askR
            rw [if_pos hgg, nt_nI (by omega), nt_nI (by omega), if_neg g42]
          rw [e]
          exact ⟨rfl, rfl, h1.st _, f1.wu _ (by omega) (by omega)⟩
        ·
          have g42 : askB σ a b = t := (g34 ((σ (8 + a) >>> (nI b &&& 31)) &&& nI 1) (and1_iff _)).mpr b42
          refine v_bipush (v := -5) dX8_ask_45 (by decide) ?_
          refine v_iret dX8_ask_47 rfl (Nat.le_refl _) (Nat.le_refl _) ?_
          have e : askR σ ns (nI a) (nI b) t = (-5, ns, σ) := by
            unfold askR
            rw [if_pos hgg, nt_nI (by omega), nt_nI (by omega), if_pos g42]
          rw [e]
          exact ⟨rfl, rfl, hM, frO.rf o w⟩
    ·
      exact absurd hgb (by rw [b15]; decide)
theorem c_ask {w : Wd} {o ns tn : Nat} {kp : Int32} {σ tx cm : Nat → Int32} (hM : MW w o ns tn kp σ tx cm) (hns : ns ≤ 4) (hW : WS σ) (x y : Int32) (t : Bool) : Wr mX8_ask 2 [.ref o, .int x, .int y, .int (b2i t)] w (AnQ w o tn kp tx cm (askR σ ns x y t)) := by
  by_cases h : (inB x 3 && inB y 2) = false
  · exact c_ask0 hM x y t h
  · have h1 : (inB x 3 && inB y 2) = true := by
      cases e : (inB x 3 && inB y 2)
      · exact absurd e h
      · rfl
    have h2 := h1
    simp only [Bool.and_eq_true] at h2
    have hx := inB_ub (by omega) h2.1
    have hy := inB_ub (by omega) h2.2
    rw [hx.1, hy.1]
    exact c_askN hM hns hW (nt x) (nt y) t hx.2 hy.2
set_option maxHeartbeats 4000000 in
set_option maxRecDepth 100000 in
theorem c_takeDown0 {w : Wd} {o ns tn : Nat} {kp : Int32} {σ tx cm : Nat → Int32} (hM : MW w o ns tn kp σ tx cm) (x y : Int32) (h : (inB x 7 && inB y 2) = false) : Wr mX8_takeDown 2 [.ref o, .int x, .int y] w (AnQ w o tn kp tx cm (takeDownR σ ns x y)) := by
  intro sz
  refine Ev.ofV [some (.ref o), some (.int x), some (.int y), none] (by decide) (Nat.le_of_ble_eq_true rfl) rfl rfl rfl ?_
  refine v_iload_n dX8_takeDown_0 rfl ?_
  refine v_iload_n dX8_takeDown_1 rfl ?_
  refine u_rS2 oX8_isPair dX8_takeDown_2 ml_X8_72 (c_isPair x y) (by decide) (Nat.le_of_ble_eq_true rfl) (Nat.le_refl _) (Nat.le_refl _) ?_
  refine v_if_neB (tgt := 10) dX8_takeDown_5 (by decide) (fun b5 => ?_) (fun b5 => ?_)
  ·
    exact absurd h (by rw [b5]; decide)
  ·
    refine v_iconst (v := -1) dX8_takeDown_8 (by decide) ?_
    refine v_iret dX8_takeDown_9 rfl (Nat.le_refl _) (Nat.le_refl _) ?_
    have e : takeDownR σ ns x y = (-1, ns, σ) := by
      unfold takeDownR
      rw [if_neg (by rw [h]; decide)]
    rw [e]
    exact ⟨rfl, rfl, hM, frO.rf o w⟩
set_option maxHeartbeats 4000000 in
set_option maxRecDepth 100000 in
theorem c_takeDownN {w : Wd} {o ns tn : Nat} {kp : Int32} {σ tx cm : Nat → Int32} (hM : MW w o ns tn kp σ tx cm) (hns : ns ≤ 4) (hW : WS σ) (a b : Nat) (ha : a < 8) (hb : b < 3) : Wr mX8_takeDown 2 [.ref o, .int (nI a), .int (nI b)] w (AnQ w o tn kp tx cm (takeDownR σ ns (nI a) (nI b))) := by
  intro sz
  refine Ev.ofV [some (.ref o), some (.int (nI a)), some (.int (nI b)), none] (by decide) (Nat.le_of_ble_eq_true rfl) rfl rfl rfl ?_
  have hga : inB (nI a) 7 = true := by rw [inB_nI (by omega) (by omega)]; simp; omega
  have hgb : inB (nI b) 2 = true := by rw [inB_nI (by omega) (by omega)]; simp; omega
  have hgg : (inB (nI a) 7 && inB (nI b) 2) = true := by rw [hga, hgb]; rfl
  refine v_iload_n dX8_takeDown_0 rfl ?_
  refine v_iload_n dX8_takeDown_1 rfl ?_
  refine u_rS2 oX8_isPair dX8_takeDown_2 ml_X8_72 (c_isPair (nI a) (nI b)) (by decide) (Nat.le_of_ble_eq_true rfl) (Nat.le_refl _) (Nat.le_refl _) ?_
  refine v_if_neB (tgt := 10) dX8_takeDown_5 (by decide) (fun b5 => ?_) (fun b5 => ?_)
  ·
    refine v_aload_n dX8_takeDown_10 rfl ?_
    refine v_iload_n dX8_takeDown_11 rfl ?_
    refine v_iload_n dX8_takeDown_12 rfl ?_
    refine u_rV2 oX8_isLabel dX8_takeDown_13 ml_X8_75 (show Rd mX8_isLabel 1 _ w (some (.int (b2i (decide (0 < ln σ (3 * a + b)))))) from c_isLabel hM a b ⟨ha, hb⟩ ((hW.2.2.2.2.2.1 (3 * a + b) (by omega)).1)) hM.1 (by decide) (Nat.le_of_ble_eq_true rfl) (Nat.le_refl _) (Nat.le_refl _) ?_
    refine v_if_neB (tgt := 22) dX8_takeDown_16 (by decide) (fun b16 => ?_) (fun b16 => ?_)
    ·
      refine v_aload_n dX8_takeDown_22 rfl ?_
      refine v_wV0 oX8_records dX8_takeDown_23 ml_X8_63 (c_records hM hns) hM.1 (by decide) (Nat.le_of_ble_eq_true rfl) (Nat.le_refl _) (Nat.le_refl _) (fun r' w1 hq => ?_)
      obtain ⟨rfl, h1, f1⟩ := hq
      obtain ⟨σ1, es⟩ : ∃ s, s = rcS σ ns := ⟨_, rfl⟩
      rw [← es] at h1
      refine v_eqw h1.self ?_
      have hW1 : WS σ1 := by rw [es]; exact hW.rc
      refine v_aload_n dX8_takeDown_26 rfl ?_
      refine v_iload_n dX8_takeDown_27 rfl ?_
      refine v_iload_n dX8_takeDown_28 rfl ?_
      refine u_rV2 oX8_wordsOf dX8_takeDown_29 ml_X8_42 (show Rd mX8_wordsOf 1 _ _ (some (.int (nI (nwl σ1 (3 * a + b))))) from c_wordsOf (h1.st σ1) a b ⟨ha, hb⟩ ((hW1.2.2.2.2.2.1 (3 * a + b) (by omega)).1)) (h1.st _).1 (by decide) (Nat.le_of_ble_eq_true rfl) (Nat.le_refl _) (Nat.le_refl _) ?_
      refine v_istore_n dX8_takeDown_32 (by decide) rfl ?_
      refine v_aload_n dX8_takeDown_33 rfl ?_
      refine v_get 0 dX8_takeDown_34 FTX8 (by decide) rfl fl_X8_7 (h1.st _).1 rfl ?_
      refine v_iload_n dX8_takeDown_37 rfl ?_
      refine v_iload_n dX8_takeDown_38 rfl ?_
      refine u_rS2 oX8_rowOf dX8_takeDown_39 ml_X8_28 (c_rowOf a b) (by decide) (Nat.le_of_ble_eq_true rfl) (Nat.le_refl _) (Nat.le_refl _) ?_
      refine v_iconst (v := nI 0) dX8_takeDown_42 (by decide) ?_
      refine v_iast _ dX8_takeDown_43 (h1.st _).2.1 rfl (by omega) (by decide) ?_
      refine v_eqw (wu_wu _ _ _ _).symm ?_
      refine v_iload_n dX8_takeDown_44 rfl ?_
      refine v_iret dX8_takeDown_45 rfl (Nat.le_refl _) (Nat.le_refl _) ?_
      have e : takeDownR σ ns (nI a) (nI b) = (nI (nwl σ1 (3 * a + b)), rcn ns, upd σ1 (272 + 64 * (3 * a + b)) (nI 0)) := by
        subst es
        unfold takeDownR
        rw [if_pos hgg, nt_nI (by omega), nt_nI (by omega), if_pos (by simpa using b16)]
      rw [e]
      exact ⟨rfl, rfl, h1.st _, f1.wu _ (by omega) (by omega)⟩
    ·
      refine v_bipush (v := -5) dX8_takeDown_19 (by decide) ?_
      refine v_iret dX8_takeDown_21 rfl (Nat.le_refl _) (Nat.le_refl _) ?_
      have e : takeDownR σ ns (nI a) (nI b) = (-5, ns, σ) := by
        unfold takeDownR
        rw [if_pos hgg, nt_nI (by omega), nt_nI (by omega), if_neg (by simpa using b16)]
      rw [e]
      exact ⟨rfl, rfl, hM, frO.rf o w⟩
  ·
    exact absurd hgg (by rw [b5]; decide)
theorem c_takeDown {w : Wd} {o ns tn : Nat} {kp : Int32} {σ tx cm : Nat → Int32} (hM : MW w o ns tn kp σ tx cm) (hns : ns ≤ 4) (hW : WS σ) (x y : Int32) : Wr mX8_takeDown 2 [.ref o, .int x, .int y] w (AnQ w o tn kp tx cm (takeDownR σ ns x y)) := by
  by_cases h : (inB x 7 && inB y 2) = false
  · exact c_takeDown0 hM x y h
  · have h1 : (inB x 7 && inB y 2) = true := by
      cases e : (inB x 7 && inB y 2)
      · exact absurd e h
      · rfl
    have h2 := h1
    simp only [Bool.and_eq_true] at h2
    have hx := inB_ub (by omega) h2.1
    have hy := inB_ub (by omega) h2.2
    rw [hx.1, hy.1]
    exact c_takeDownN hM hns hW (nt x) (nt y) hx.2 hy.2
set_option maxHeartbeats 4000000 in
set_option maxRecDepth 100000 in
theorem c_label0 {w : Wd} {o ns tn : Nat} {kp : Int32} {σ tx cm : Nat → Int32} (hM : MW w o ns tn kp σ tx cm) (x y : Int32) (h : (inB x 7 && inB y 2) = false) : Wr mX8_label 2 [.ref o, .int x, .int y] w (AnQ w o tn kp tx cm (labelR σ ns tx tn x y)) := by
  intro sz
  refine Ev.ofV [some (.ref o), some (.int x), some (.int y), none] (by decide) (Nat.le_of_ble_eq_true rfl) rfl rfl rfl ?_
  refine v_iload_n dX8_label_0 rfl ?_
  refine v_iload_n dX8_label_1 rfl ?_
  refine u_rS2 oX8_isPair dX8_label_2 ml_X8_72 (c_isPair x y) (by decide) (Nat.le_of_ble_eq_true rfl) (Nat.le_refl _) (Nat.le_refl _) ?_
  refine v_if_neB (tgt := 10) dX8_label_5 (by decide) (fun b5 => ?_) (fun b5 => ?_)
  ·
    exact absurd h (by rw [b5]; decide)
  ·
    refine v_iconst (v := -1) dX8_label_8 (by decide) ?_
    refine v_iret dX8_label_9 rfl (Nat.le_refl _) (Nat.le_refl _) ?_
    have e : labelR σ ns tx tn x y = (-1, ns, σ) := by
      unfold labelR
      rw [if_neg (by rw [h]; decide)]
    rw [e]
    exact ⟨rfl, rfl, hM, frO.rf o w⟩
set_option maxHeartbeats 4000000 in
set_option maxRecDepth 100000 in
theorem c_labelN {w : Wd} {o ns tn : Nat} {kp : Int32} {σ tx cm : Nat → Int32} (hM : MW w o ns tn kp σ tx cm) (hns : ns ≤ 4) (hW : WS σ) (ht : tn ≤ 60) (a b : Nat) (ha : a < 8) (hb : b < 3) : Wr mX8_label 2 [.ref o, .int (nI a), .int (nI b)] w (AnQ w o tn kp tx cm (labelR σ ns tx tn (nI a) (nI b))) := by
  intro sz
  refine Ev.ofV [some (.ref o), some (.int (nI a)), some (.int (nI b)), none] (by decide) (Nat.le_of_ble_eq_true rfl) rfl rfl rfl ?_
  have hga : inB (nI a) 7 = true := by rw [inB_nI (by omega) (by omega)]; simp; omega
  have hgb : inB (nI b) 2 = true := by rw [inB_nI (by omega) (by omega)]; simp; omega
  have hgg : (inB (nI a) 7 && inB (nI b) 2) = true := by rw [hga, hgb]; rfl
  refine v_iload_n dX8_label_0 rfl ?_
  refine v_iload_n dX8_label_1 rfl ?_
  refine u_rS2 oX8_isPair dX8_label_2 ml_X8_72 (c_isPair (nI a) (nI b)) (by decide) (Nat.le_of_ble_eq_true rfl) (Nat.le_refl _) (Nat.le_refl _) ?_
  refine v_if_neB (tgt := 10) dX8_label_5 (by decide) (fun b5 => ?_) (fun b5 => ?_)
  ·
    refine v_aload_n dX8_label_10 rfl ?_
    refine u_rV0 oX8_fault dX8_label_11 ml_X8_78 (c_fault hM ht) hM.1 (by decide) (Nat.le_of_ble_eq_true rfl) (Nat.le_refl _) (Nat.le_refl _) ?_
    refine v_if_lt (tgt := 25) dX8_label_14 (by decide) (fun b14 => ?_) (fun b14 => ?_)
    ·
      refine v_aload_n dX8_label_25 rfl ?_
      refine u_rV0 oX8_wordsTold dX8_label_26 ml_X8_82 (c_wordsTold hM ht) hM.1 (by decide) (Nat.le_of_ble_eq_true rfl) (Nat.le_refl _) (Nat.le_refl _) ?_
      refine v_aload_n dX8_label_29 rfl ?_
      refine v_get 0 dX8_label_30 FTX8 (by decide) rfl fl_X8_7 hM.1 rfl ?_
      refine v_bipush (v := nI 12) dX8_label_33 (by decide) ?_
      refine v_aload_n dX8_label_35 rfl ?_
      refine v_get 0 dX8_label_36 FTX8 (by decide) rfl fl_X8_7 hM.1 rfl ?_
      refine v_iload_n dX8_label_39 rfl ?_
      refine v_ialdN _ dX8_label_40 hM.2.1 rfl (by omega) (by decide) (hW.1 a ha).1 ?_
      refine v_iaddN dX8_label_41 ?_
      refine v_ialdN _ dX8_label_42 hM.2.1 rfl (by have := (hW.1 a ha).2; omega) (by decide) (hW.2.2.1 _ (hW.1 a ha).2).1.1 ?_
      refine v_icmp_leN (tgt := 49) dX8_label_43 (by decide) (by have := cnt_le (bl tx) tn; omega) (by have := (hW.2.2.1 _ (hW.1 a ha).2).1.2; omega) (fun b43 => ?_) (fun b43 => ?_)
      ·
        have b43 : 1 + cnt (bl tx) tn ≤ limW σ a := b43
        refine v_iload_n dX8_label_49 rfl ?_
        refine v_iload_n dX8_label_50 rfl ?_
        refine u_rS2 oX8_rowOf dX8_label_51 ml_X8_28 (c_rowOf a b) (by decide) (Nat.le_of_ble_eq_true rfl) (Nat.le_refl _) (Nat.le_refl _) ?_
        refine v_istore_n dX8_label_54 (by decide) rfl ?_
        refine v_aload_n dX8_label_55 rfl ?_
        refine v_iload_n dX8_label_56 rfl ?_
        refine v_iconst (v := nI 4) dX8_label_57 (by decide) ?_
        refine v_iaddN dX8_label_58 ?_
        refine v_aload_n dX8_label_59 rfl ?_
        refine v_get 0 dX8_label_60 FTX8 (by decide) rfl fl_X8_7 hM.1 rfl ?_
        refine v_iload_n dX8_label_63 rfl ?_
        refine v_ialdN _ dX8_label_64 hM.2.1 rfl (by omega) (by decide) ((hW.2.2.2.2.2.1 (3 * a + b) (by omega)).1).1 ?_
        refine u_rV2 oX8_isTold dX8_label_65 ml_X8_85 (c_isTold hM (272 + 64 * (3 * a + b) + 4) (ln σ (3 * a + b)) (by omega) (by have := ((hW.2.2.2.2.2.1 (3 * a + b) (by omega)).1).2; unfold ln; omega) ht) hM.1 (by decide) (Nat.le_of_ble_eq_true rfl) (Nat.le_refl _) (Nat.le_refl _) ?_
        refine v_if_eqB (tgt := 74) dX8_label_68 (by decide) (fun b68 => ?_) (fun b68 => ?_)
        ·
          refine v_aload_n dX8_label_74 rfl ?_
          refine v_wV0 oX8_records dX8_label_75 ml_X8_63 (c_records hM hns) hM.1 (by decide) (Nat.le_of_ble_eq_true rfl) (Nat.le_refl _) (Nat.le_refl _) (fun r' w1 hq => ?_)
          obtain ⟨rfl, h1, f1⟩ := hq
          obtain ⟨σ1, es⟩ : ∃ s, s = rcS σ ns := ⟨_, rfl⟩
          rw [← es] at h1
          refine v_eqw h1.self ?_
          refine v_aload_n dX8_label_78 rfl ?_
          refine v_get 0 dX8_label_79 FTX8 (by decide) rfl fl_X8_7 (h1.st _).1 rfl ?_
          refine v_iload_n dX8_label_82 rfl ?_
          refine v_aload_n dX8_label_83 rfl ?_
          refine v_get 4 dX8_label_84 FTX8 (by decide) rfl fl_X8_56 (h1.st _).1 rfl ?_
          refine v_iast _ dX8_label_87 (h1.st _).2.1 rfl (by omega) (by decide) ?_
          refine v_eqw (wu_wu _ _ _ _).symm ?_
          refine v_aload_n dX8_label_88 rfl ?_
          refine v_get 0 dX8_label_89 FTX8 (by decide) rfl fl_X8_7 (h1.st _).1 rfl ?_
          refine v_iload_n dX8_label_92 rfl ?_
          refine v_iconst (v := nI 1) dX8_label_93 (by decide) ?_
          refine v_iaddN dX8_label_94 ?_
          refine v_iconst (v := -1) dX8_label_95 (by decide) ?_
          refine v_iast _ dX8_label_96 (h1.st _).2.1 rfl (by omega) (by decide) ?_
          refine v_eqw (wu_wu _ _ _ _).symm ?_
          refine v_aload_n dX8_label_97 rfl ?_
          refine v_get 0 dX8_label_98 FTX8 (by decide) rfl fl_X8_7 (h1.st _).1 rfl ?_
          refine v_iload_n dX8_label_101 rfl ?_
          refine v_iconst (v := nI 2) dX8_label_102 (by decide) ?_
          refine v_iaddN dX8_label_103 ?_
          refine v_aload_n dX8_label_104 rfl ?_
          refine v_get 0 dX8_label_105 FTX8 (by decide) rfl fl_X8_7 (h1.st _).1 rfl ?_
          refine v_bipush (v := nI 17) dX8_label_108 (by decide) ?_
          refine v_ialdE _ dX8_label_110 (h1.st _).2.1 rfl (by omega) (by decide) ((up_ne _ _ (by omega)).trans (up_ne _ _ (by omega))) ?_
          refine v_iast _ dX8_label_111 (h1.st _).2.1 rfl (by omega) (by decide) ?_
          refine v_eqw (wu_wu _ _ _ _).symm ?_
          refine v_aload_n dX8_label_112 rfl ?_
          refine v_get 0 dX8_label_113 FTX8 (by decide) rfl fl_X8_7 (h1.st _).1 rfl ?_
          refine v_iload_n dX8_label_116 rfl ?_
          refine v_iconst (v := nI 3) dX8_label_117 (by decide) ?_
          refine v_iaddN dX8_label_118 ?_
          refine v_iconst (v := nI 0) dX8_label_119 (by decide) ?_
          refine v_iast _ dX8_label_120 (h1.st _).2.1 rfl (by omega) (by decide) ?_
          refine v_eqw (wu_wu _ _ _ _).symm ?_
          refine v_aload_n dX8_label_121 rfl ?_
          refine v_iload_n dX8_label_122 rfl ?_
          refine v_iconst (v := nI 4) dX8_label_123 (by decide) ?_
          refine v_iaddN dX8_label_124 ?_
          refine n_wV1 oX8_lays dX8_label_125 ml_X8_88 (c_lays (h1.st _) (272 + 64 * (3 * a + b) + 4) (by omega) ht) (h1.st _).1 (by decide) (Nat.le_of_ble_eq_true rfl) (Nat.le_refl _) (Nat.le_refl _) ?_
          refine v_eqw (wu_wu _ _ _ _).symm ?_
          refine v_aload_n dX8_label_128 rfl ?_
          refine u_rV0 oX8_wordsTold dX8_label_129 ml_X8_82 (c_wordsTold (h1.st _) ht) (h1.st _).1 (by decide) (Nat.le_of_ble_eq_true rfl) (Nat.le_refl _) (Nat.le_refl _) ?_
          refine v_iret dX8_label_132 rfl (Nat.le_refl _) (Nat.le_refl _) ?_
          have e : labelR σ ns tx tn (nI a) (nI b) = (nI (1 + cnt (bl tx) tn), rcn ns, labS σ1 (3 * a + b) tx tn) := by
            subst es
            unfold labelR
            rw [if_pos hgg, nt_nI (by omega), nt_nI (by omega), if_pos b14, if_pos b43, if_neg (by rw [b68]; decide)]
          rw [e]
          exact ⟨rfl, rfl, h1.st _, f1.wu _ (by omega) (by omega)⟩
        ·
          refine v_bipush (v := -5) dX8_label_71 (by decide) ?_
          refine v_iret dX8_label_73 rfl (Nat.le_refl _) (Nat.le_refl _) ?_
          have e : labelR σ ns tx tn (nI a) (nI b) = (-5, ns, σ) := by
            unfold labelR
            rw [if_pos hgg, nt_nI (by omega), nt_nI (by omega), if_pos b14, if_pos b43, if_pos b68]
          rw [e]
          exact ⟨rfl, rfl, hM, frO.rf o w⟩
      ·
        have b43 : ¬ 1 + cnt (bl tx) tn ≤ limW σ a := b43
        refine v_bipush (v := -6) dX8_label_46 (by decide) ?_
        refine v_iret dX8_label_48 rfl (Nat.le_refl _) (Nat.le_refl _) ?_
        have e : labelR σ ns tx tn (nI a) (nI b) = (-6, ns, σ) := by
          unfold labelR
          rw [if_pos hgg, nt_nI (by omega), nt_nI (by omega), if_pos b14, if_neg b43]
        rw [e]
        exact ⟨rfl, rfl, hM, frO.rf o w⟩
    ·
      refine v_bipush (v := -100) dX8_label_17 (by decide) ?_
      refine v_aload_n dX8_label_19 rfl ?_
      refine u_rV0 oX8_fault dX8_label_20 ml_X8_78 (c_fault hM ht) hM.1 (by decide) (Nat.le_of_ble_eq_true rfl) (Nat.le_refl _) (Nat.le_refl _) ?_
      refine v_isub dX8_label_23 ?_
      refine v_iret dX8_label_24 rfl (Nat.le_refl _) (Nat.le_refl _) ?_
      have e : labelR σ ns tx tn (nI a) (nI b) = (-100 - flt tx tn, ns, σ) := by
        unfold labelR
        rw [if_pos hgg, nt_nI (by omega), nt_nI (by omega), if_neg b14]
      rw [e]
      exact ⟨rfl, rfl, hM, frO.rf o w⟩
  ·
    exact absurd hgg (by rw [b5]; decide)
theorem c_label {w : Wd} {o ns tn : Nat} {kp : Int32} {σ tx cm : Nat → Int32} (hM : MW w o ns tn kp σ tx cm) (hns : ns ≤ 4) (hW : WS σ) (ht : tn ≤ 60) (x y : Int32) : Wr mX8_label 2 [.ref o, .int x, .int y] w (AnQ w o tn kp tx cm (labelR σ ns tx tn x y)) := by
  by_cases h : (inB x 7 && inB y 2) = false
  · exact c_label0 hM x y h
  · have h1 : (inB x 7 && inB y 2) = true := by
      cases e : (inB x 7 && inB y 2)
      · exact absurd e h
      · rfl
    have h2 := h1
    simp only [Bool.and_eq_true] at h2
    have hx := inB_ub (by omega) h2.1
    have hy := inB_ub (by omega) h2.2
    rw [hx.1, hy.1]
    exact c_labelN hM hns hW ht (nt x) (nt y) hx.2 hy.2
