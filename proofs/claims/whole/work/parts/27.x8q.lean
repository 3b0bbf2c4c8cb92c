theorem nI_div3 {p : Nat} (h : p < 24) : nI p / nI 3 = nI (p / 3) := by
  have : ∀ p : Fin 24, nI p.val / nI 3 = nI (p.val / 3) := by decide
  exact this ⟨p, h⟩
theorem nI_mod3 {p : Nat} (h : p < 24) : nI p - nI p / nI 3 * nI 3 = nI (p % 3) := by
  have : ∀ p : Fin 24, nI p.val - nI p.val / nI 3 * nI 3 = nI (p.val % 3) := by decide
  exact this ⟨p, h⟩
def rwO (σ : Nat → Int32) (k : Nat) (x : Int32) : Nat → Int32
  | 0 => σ (1808 + 65 * k + 1) / nI 3
  | 1 => σ (1808 + 65 * k + 1) - σ (1808 + 65 * k + 1) / nI 3 * nI 3
  | 2 => σ (1808 + 65 * k + 2)
  | 3 => nI (nwr σ k)
  | 4 => nI (vf σ x)
  | 5 => σ (1808 + 65 * k + 3)
  | 6 => aprt (sft σ (1808 + 65 * k + 5)) (sft σ (272 + 64 * nt (σ (1808 + 65 * k + 1)) + 4)) (nt (σ (1808 + 65 * k + 4))) (ln σ (nt (σ (1808 + 65 * k + 1))))
  | _ => b2i (decide (oI (bst σ (nt (σ (1808 + 65 * k + 1))) (nt (σ 16)) (limW σ (nt (σ (1808 + 65 * k + 1)) / 3)) 16) = nI k))
def rewriteOfI (σ : Nat → Int32) (x z : Int32) : Int32 := match plO σ x with
  | none => -1
  | some k => if inB z 7 = true then rwO σ k x (nt z) else -2
theorem okT_nw {f : Nat → Int32} {n : Nat} (h : okT f n) : 2 * nw f n ≤ n + 1 := by
  have key : ∀ m, m ≤ n → 2 * cnt (bl f) m ≤ m ∧ (isw f m = false → 0 < m → 2 * cnt (bl f) m ≤ m) ∧ (isw f m = true → 2 * cnt (bl f) m + 1 ≤ m) := by
    intro m
    induction m with
    | zero => intro _; exact ⟨by simp [cnt], fun _ h => absurd h (Nat.lt_irrefl _), fun h => by simp [isw] at h⟩
    | succ m ih =>
      intro hm
      have i := ih (by omega)
      have ho := h.2.1 m (by omega)
      simp only [okc, Bool.or_eq_true, Bool.and_eq_true] at ho
      cases e : bl f m
      · have e1 : cnt (bl f) (m + 1) = cnt (bl f) m := by simp [cnt, e]
        rw [e1]
        refine ⟨by omega, fun _ _ => by omega, fun _ => ?_⟩
        omega
      · have e1 : cnt (bl f) (m + 1) = cnt (bl f) m + 1 := by simp [cnt, e]
        have e2 : ltr (f m) = false := by
          have : f m = nI 32 := by simpa [bl] using e
          rw [this]
          decide
        have e3 : isw f m = true := by
          rcases ho with h1 | h1
          · rw [e2] at h1
            cases h1
          · exact h1.2
        have i3 := i.2.2 e3
        rw [e1]
        refine ⟨by omega, fun _ _ => by omega, fun h1 => ?_⟩
        simp only [isw] at h1
        rw [e2] at h1
        cases h1
  have := (key n (Nat.le_refl _)).2.2 h.2.2
  unfold nw
  rw [if_pos h.1]
  omega
set_option maxHeartbeats 1000000 in
set_option maxRecDepth 100000 in
theorem c_rewriteOf_no {w : Wd} {o ns tn : Nat} {kp : Int32} {σ tx cm : Nat → Int32} (hM : MW w o ns tn kp σ tx cm) (x z : Int32) (hp : plO σ x = none) : Wr mX8_rewriteOf 3 [.ref o, .int x, .int z] w (fun r' w' => r' = some (.int (rewriteOfI σ x z)) ∧ ∃ cm', MW w' o ns tn kp σ tx cm' ∧ frO o w w') := by
  intro sz
  refine Ev.ofV [some (.ref o), some (.int x), some (.int z), none, none, none] (by decide) (Nat.le_of_ble_eq_true rfl) rfl rfl rfl ?_
  have cp := c_plO hM x
  rw [hp] at cp
  have cp : Rd mX8_placeOf 1 [.ref o, .int x] w (some (.int (-1))) := cp
  refine v_aload_n dX8_rewriteOf_0 rfl ?_
  refine v_iload_n dX8_rewriteOf_1 rfl ?_
  refine u_rV1 oX8_placeOf dX8_rewriteOf_2 ml_X8_101 cp hM.1 (by decide) (Nat.le_of_ble_eq_true rfl) (Nat.le_refl _) (Nat.le_refl _) ?_
  refine v_istore_n dX8_rewriteOf_5 (by decide) rfl ?_
  refine v_iload_n dX8_rewriteOf_6 rfl ?_
  refine v_if_ge (tgt := 12) dX8_rewriteOf_7 (by decide) (fun b7 => ?_) (fun b7 => ?_)
  ·
    exact absurd b7 (by decide)
  ·
    refine v_iconst (v := -1) dX8_rewriteOf_10 (by decide) ?_
    refine v_iret dX8_rewriteOf_11 rfl (Nat.le_refl _) (Nat.le_refl _) ?_
    exact ⟨rfl, by unfold rewriteOfI; rw [hp], cm, hM, frO.rf o w⟩
set_option maxHeartbeats 1000000 in
set_option maxRecDepth 100000 in
theorem c_rewriteOf_out {w : Wd} {o ns tn : Nat} {kp : Int32} {σ tx cm : Nat → Int32} (hM : MW w o ns tn kp σ tx cm) (hW : WS σ) (x z : Int32) (k : Nat) (hp : plO σ x = some k) (hz : inB z 7 = false) : Wr mX8_rewriteOf 3 [.ref o, .int x, .int z] w (fun r' w' => r' = some (.int (rewriteOfI σ x z)) ∧ ∃ cm', MW w' o ns tn kp σ tx cm' ∧ frO o w w') := by
  intro sz
  refine Ev.ofV [some (.ref o), some (.int x), some (.int z), none, none, none] (by decide) (Nat.le_of_ble_eq_true rfl) rfl rfl rfl ?_
  have cp := c_plO hM x
  rw [hp] at cp
  have cp : Rd mX8_placeOf 1 [.ref o, .int x] w (some (.int (nI k))) := cp
  have hps := plO_some hp
  have hr := hW.rw hps.1 (by rw [hps.2.2]; exact hps.2.1)
  have hk := hps.1
  refine v_aload_n dX8_rewriteOf_0 rfl ?_
  refine v_iload_n dX8_rewriteOf_1 rfl ?_
  refine u_rV1 oX8_placeOf dX8_rewriteOf_2 ml_X8_101 cp hM.1 (by decide) (Nat.le_of_ble_eq_true rfl) (Nat.le_refl _) (Nat.le_refl _) ?_
  refine v_istore_n dX8_rewriteOf_5 (by decide) rfl ?_
  refine v_iload_n dX8_rewriteOf_6 rfl ?_
  refine v_if_geN (tgt := 12) dX8_rewriteOf_7 (by decide) (by omega) ?_
  refine v_iload_n dX8_rewriteOf_12 rfl ?_
  refine v_iconst (v := nI 0) dX8_rewriteOf_13 (by decide) ?_
  refine v_bipush (v := nI 7) dX8_rewriteOf_14 (by decide) ?_
  refine u_rS3 oX8_in dX8_rewriteOf_16 ml_X8_59 (c_inB z 7) (by decide) (Nat.le_of_ble_eq_true rfl) (Nat.le_refl _) (Nat.le_refl _) ?_
  refine v_if_neB (tgt := 25) dX8_rewriteOf_19 (by decide) (fun b19 => ?_) (fun b19 => ?_)
  ·
    exact absurd b19 (by rw [hz]; decide)
  ·
    refine v_bipush (v := -2) dX8_rewriteOf_22 (by decide) ?_
    refine v_iret dX8_rewriteOf_24 rfl (Nat.le_refl _) (Nat.le_refl _) ?_
    exact ⟨rfl, by unfold rewriteOfI; rw [hp]; show some (Value.int (-2)) = some (Value.int (if _ then _ else _)); rw [if_neg (by rw [hz]; decide)], cm, hM, frO.rf o w⟩
set_option maxHeartbeats 1000000 in
set_option maxRecDepth 100000 in
theorem c_rewriteOf0 {w : Wd} {o ns tn : Nat} {kp : Int32} {σ tx cm : Nat → Int32} (hM : MW w o ns tn kp σ tx cm) (hW : WS σ) (x : Int32) (k : Nat) (hp : plO σ x = some k) : Wr mX8_rewriteOf 3 [.ref o, .int x, .int (nI 0)] w (fun r' w' => r' = some (.int (rewriteOfI σ x (nI 0))) ∧ ∃ cm', MW w' o ns tn kp σ tx cm' ∧ frO o w w') := by
  intro sz
  refine Ev.ofV [some (.ref o), some (.int x), some (.int (nI 0)), none, none, none] (by decide) (Nat.le_of_ble_eq_true rfl) rfl rfl rfl ?_
  have cp := c_plO hM x
  rw [hp] at cp
  have cp : Rd mX8_placeOf 1 [.ref o, .int x] w (some (.int (nI k))) := cp
  have hps := plO_some hp
  have hr := hW.rw hps.1 (by rw [hps.2.2]; exact hps.2.1)
  have hk := hps.1
  refine v_aload_n dX8_rewriteOf_0 rfl ?_
  refine v_iload_n dX8_rewriteOf_1 rfl ?_
  refine u_rV1 oX8_placeOf dX8_rewriteOf_2 ml_X8_101 cp hM.1 (by decide) (Nat.le_of_ble_eq_true rfl) (Nat.le_refl _) (Nat.le_refl _) ?_
  refine v_istore_n dX8_rewriteOf_5 (by decide) rfl ?_
  refine v_iload_n dX8_rewriteOf_6 rfl ?_
  refine v_if_geN (tgt := 12) dX8_rewriteOf_7 (by decide) (by omega) ?_
  refine v_iload_n dX8_rewriteOf_12 rfl ?_
  refine v_iconst (v := nI 0) dX8_rewriteOf_13 (by decide) ?_
  refine v_bipush (v := nI 7) dX8_rewriteOf_14 (by decide) ?_
  refine u_rS3 oX8_in dX8_rewriteOf_16 ml_X8_59 (c_inB (nI 0) 7) (by decide) (Nat.le_of_ble_eq_true rfl) (Nat.le_refl _) (Nat.le_refl _) ?_
  refine v_if_neB (tgt := 25) dX8_rewriteOf_19 (by decide) (fun b19 => ?_) (fun b19 => ?_)
  ·
    refine v_iload_n dX8_rewriteOf_25 rfl ?_
    refine u_rS1 oX8_paper dX8_rewriteOf_26 ml_X8_49 (c_paper k) (by decide) (Nat.le_of_ble_eq_true rfl) (Nat.le_refl _) (Nat.le_refl _) ?_
    refine v_istore dX8_rewriteOf_29 (by decide) rfl ?_
    refine v_sipush (v := nI 272) dX8_rewriteOf_31 (by decide) ?_
    refine v_bipush (v := nI 64) dX8_rewriteOf_34 (by decide) ?_
    refine v_aload_n dX8_rewriteOf_36 rfl ?_
    refine v_get 0 dX8_rewriteOf_37 FTX8 (by decide) rfl fl_X8_7 hM.1 rfl ?_
    refine v_iload dX8_rewriteOf_40 rfl ?_
    refine v_iconst (v := nI 1) dX8_rewriteOf_42 (by decide) ?_
    refine v_iaddN dX8_rewriteOf_43 ?_
    refine v_ialdN _ dX8_rewriteOf_44 hM.2.1 rfl (by omega) (by decide) hr.2.1.1 ?_
    refine v_imulN dX8_rewriteOf_45 ?_
    refine v_iaddN dX8_rewriteOf_46 ?_
    refine v_istore dX8_rewriteOf_47 (by decide) rfl ?_
    refine v_iload_n dX8_rewriteOf_49 rfl ?_
    refine v_tableIn (tgt := 92) (off := 42) dX8_rewriteOf_50 (by decide) (by decide) (by decide) (by decide) ?_
    refine v_aload_n dX8_rewriteOf_92 rfl ?_
    refine v_get 0 dX8_rewriteOf_93 FTX8 (by decide) rfl fl_X8_7 hM.1 rfl ?_
    refine v_iload dX8_rewriteOf_96 rfl ?_
    refine v_iconst (v := nI 1) dX8_rewriteOf_98 (by decide) ?_
    refine v_iaddN dX8_rewriteOf_99 ?_
    refine v_iald _ dX8_rewriteOf_100 hM.2.1 rfl (by omega) (by decide) ?_
    refine v_iconst (v := nI 3) dX8_rewriteOf_101 (by decide) ?_
    refine v_idiv dX8_rewriteOf_102 (by decide) ?_
    refine v_iret dX8_rewriteOf_103 rfl (Nat.le_refl _) (Nat.le_refl _) ?_
    exact ⟨rfl, by unfold rewriteOfI; rw [hp]; show _ = some (Value.int (if _ then _ else _)); rw [if_pos (by decide), nt_nI (by omega)]; rfl, cm, hM, frO.rf o w⟩
  ·
    exact absurd b19 (by decide)
set_option maxHeartbeats 1000000 in
set_option maxRecDepth 100000 in
theorem c_rewriteOf1 {w : Wd} {o ns tn : Nat} {kp : Int32} {σ tx cm : Nat → Int32} (hM : MW w o ns tn kp σ tx cm) (hW : WS σ) (x : Int32) (k : Nat) (hp : plO σ x = some k) : Wr mX8_rewriteOf 3 [.ref o, .int x, .int (nI 1)] w (fun r' w' => r' = some (.int (rewriteOfI σ x (nI 1))) ∧ ∃ cm', MW w' o ns tn kp σ tx cm' ∧ frO o w w') := by
  intro sz
  refine Ev.ofV [some (.ref o), some (.int x), some (.int (nI 1)), none, none, none] (by decide) (Nat.le_of_ble_eq_true rfl) rfl rfl rfl ?_
  have cp := c_plO hM x
  rw [hp] at cp
  have cp : Rd mX8_placeOf 1 [.ref o, .int x] w (some (.int (nI k))) := cp
  have hps := plO_some hp
  have hr := hW.rw hps.1 (by rw [hps.2.2]; exact hps.2.1)
  have hk := hps.1
  refine v_aload_n dX8_rewriteOf_0 rfl ?_
  refine v_iload_n dX8_rewriteOf_1 rfl ?_
  refine u_rV1 oX8_placeOf dX8_rewriteOf_2 ml_X8_101 cp hM.1 (by decide) (Nat.le_of_ble_eq_true rfl) (Nat.le_refl _) (Nat.le_refl _) ?_
  refine v_istore_n dX8_rewriteOf_5 (by decide) rfl ?_
  refine v_iload_n dX8_rewriteOf_6 rfl ?_
  refine v_if_geN (tgt := 12) dX8_rewriteOf_7 (by decide) (by omega) ?_
  refine v_iload_n dX8_rewriteOf_12 rfl ?_
  refine v_iconst (v := nI 0) dX8_rewriteOf_13 (by decide) ?_
  refine v_bipush (v := nI 7) dX8_rewriteOf_14 (by decide) ?_
  refine u_rS3 oX8_in dX8_rewriteOf_16 ml_X8_59 (c_inB (nI 1) 7) (by decide) (Nat.le_of_ble_eq_true rfl) (Nat.le_refl _) (Nat.le_refl _) ?_
  refine v_if_neB (tgt := 25) dX8_rewriteOf_19 (by decide) (fun b19 => ?_) (fun b19 => ?_)
  ·
    refine v_iload_n dX8_rewriteOf_25 rfl ?_
    refine u_rS1 oX8_paper dX8_rewriteOf_26 ml_X8_49 (c_paper k) (by decide) (Nat.le_of_ble_eq_true rfl) (Nat.le_refl _) (Nat.le_refl _) ?_
    refine v_istore dX8_rewriteOf_29 (by decide) rfl ?_
    refine v_sipush (v := nI 272) dX8_rewriteOf_31 (by decide) ?_
    refine v_bipush (v := nI 64) dX8_rewriteOf_34 (by decide) ?_
    refine v_aload_n dX8_rewriteOf_36 rfl ?_
    refine v_get 0 dX8_rewriteOf_37 FTX8 (by decide) rfl fl_X8_7 hM.1 rfl ?_
    refine v_iload dX8_rewriteOf_40 rfl ?_
    refine v_iconst (v := nI 1) dX8_rewriteOf_42 (by decide) ?_
    refine v_iaddN dX8_rewriteOf_43 ?_
    refine v_ialdN _ dX8_rewriteOf_44 hM.2.1 rfl (by omega) (by decide) hr.2.1.1 ?_
    refine v_imulN dX8_rewriteOf_45 ?_
    refine v_iaddN dX8_rewriteOf_46 ?_
    refine v_istore dX8_rewriteOf_47 (by decide) rfl ?_
    refine v_iload_n dX8_rewriteOf_49 rfl ?_
    refine v_tableIn (tgt := 104) (off := 54) dX8_rewriteOf_50 (by decide) (by decide) (by decide) (by decide) ?_
    refine v_aload_n dX8_rewriteOf_104 rfl ?_
    refine v_get 0 dX8_rewriteOf_105 FTX8 (by decide) rfl fl_X8_7 hM.1 rfl ?_
    refine v_iload dX8_rewriteOf_108 rfl ?_
    refine v_iconst (v := nI 1) dX8_rewriteOf_110 (by decide) ?_
    refine v_iaddN dX8_rewriteOf_111 ?_
    refine v_iald _ dX8_rewriteOf_112 hM.2.1 rfl (by omega) (by decide) ?_
    refine v_iconst (v := nI 3) dX8_rewriteOf_113 (by decide) ?_
    refine v_irem dX8_rewriteOf_114 (by decide) ?_
    refine v_iret dX8_rewriteOf_115 rfl (Nat.le_refl _) (Nat.le_refl _) ?_
    exact ⟨rfl, by unfold rewriteOfI; rw [hp]; show _ = some (Value.int (if _ then _ else _)); rw [if_pos (by decide), nt_nI (by omega)]; rfl, cm, hM, frO.rf o w⟩
  ·
    exact absurd b19 (by decide)
set_option maxHeartbeats 1000000 in
set_option maxRecDepth 100000 in
theorem c_rewriteOf2 {w : Wd} {o ns tn : Nat} {kp : Int32} {σ tx cm : Nat → Int32} (hM : MW w o ns tn kp σ tx cm) (hW : WS σ) (x : Int32) (k : Nat) (hp : plO σ x = some k) : Wr mX8_rewriteOf 3 [.ref o, .int x, .int (nI 2)] w (fun r' w' => r' = some (.int (rewriteOfI σ x (nI 2))) ∧ ∃ cm', MW w' o ns tn kp σ tx cm' ∧ frO o w w') := by
  intro sz
  refine Ev.ofV [some (.ref o), some (.int x), some (.int (nI 2)), none, none, none] (by decide) (Nat.le_of_ble_eq_true rfl) rfl rfl rfl ?_
  have cp := c_plO hM x
  rw [hp] at cp
  have cp : Rd mX8_placeOf 1 [.ref o, .int x] w (some (.int (nI k))) := cp
  have hps := plO_some hp
  have hr := hW.rw hps.1 (by rw [hps.2.2]; exact hps.2.1)
  have hk := hps.1
  refine v_aload_n dX8_rewriteOf_0 rfl ?_
  refine v_iload_n dX8_rewriteOf_1 rfl ?_
  refine u_rV1 oX8_placeOf dX8_rewriteOf_2 ml_X8_101 cp hM.1 (by decide) (Nat.le_of_ble_eq_true rfl) (Nat.le_refl _) (Nat.le_refl _) ?_
  refine v_istore_n dX8_rewriteOf_5 (by decide) rfl ?_
  refine v_iload_n dX8_rewriteOf_6 rfl ?_
  refine v_if_geN (tgt := 12) dX8_rewriteOf_7 (by decide) (by omega) ?_
  refine v_iload_n dX8_rewriteOf_12 rfl ?_
  refine v_iconst (v := nI 0) dX8_rewriteOf_13 (by decide) ?_
  refine v_bipush (v := nI 7) dX8_rewriteOf_14 (by decide) ?_
  refine u_rS3 oX8_in dX8_rewriteOf_16 ml_X8_59 (c_inB (nI 2) 7) (by decide) (Nat.le_of_ble_eq_true rfl) (Nat.le_refl _) (Nat.le_refl _) ?_
  refine v_if_neB (tgt := 25) dX8_rewriteOf_19 (by decide) (fun b19 => ?_) (fun b19 => ?_)
  ·
    refine v_iload_n dX8_rewriteOf_25 rfl ?_
    refine u_rS1 oX8_paper dX8_rewriteOf_26 ml_X8_49 (c_paper k) (by decide) (Nat.le_of_ble_eq_true rfl) (Nat.le_refl _) (Nat.le_refl _) ?_
    refine v_istore dX8_rewriteOf_29 (by decide) rfl ?_
    refine v_sipush (v := nI 272) dX8_rewriteOf_31 (by decide) ?_
    refine v_bipush (v := nI 64) dX8_rewriteOf_34 (by decide) ?_
    refine v_aload_n dX8_rewriteOf_36 rfl ?_
    refine v_get 0 dX8_rewriteOf_37 FTX8 (by decide) rfl fl_X8_7 hM.1 rfl ?_
    refine v_iload dX8_rewriteOf_40 rfl ?_
    refine v_iconst (v := nI 1) dX8_rewriteOf_42 (by decide) ?_
    refine v_iaddN dX8_rewriteOf_43 ?_
    refine v_ialdN _ dX8_rewriteOf_44 hM.2.1 rfl (by omega) (by decide) hr.2.1.1 ?_
    refine v_imulN dX8_rewriteOf_45 ?_
    refine v_iaddN dX8_rewriteOf_46 ?_
    refine v_istore dX8_rewriteOf_47 (by decide) rfl ?_
    refine v_iload_n dX8_rewriteOf_49 rfl ?_
    refine v_tableIn (tgt := 116) (off := 66) dX8_rewriteOf_50 (by decide) (by decide) (by decide) (by decide) ?_
    refine v_aload_n dX8_rewriteOf_116 rfl ?_
    refine v_get 0 dX8_rewriteOf_117 FTX8 (by decide) rfl fl_X8_7 hM.1 rfl ?_
    refine v_iload dX8_rewriteOf_120 rfl ?_
    refine v_iconst (v := nI 2) dX8_rewriteOf_122 (by decide) ?_
    refine v_iaddN dX8_rewriteOf_123 ?_
    refine v_iald _ dX8_rewriteOf_124 hM.2.1 rfl (by omega) (by decide) ?_
    refine v_iret dX8_rewriteOf_125 rfl (Nat.le_refl _) (Nat.le_refl _) ?_
    exact ⟨rfl, by unfold rewriteOfI; rw [hp]; show _ = some (Value.int (if _ then _ else _)); rw [if_pos (by decide), nt_nI (by omega)]; rfl, cm, hM, frO.rf o w⟩
  ·
    exact absurd b19 (by decide)
set_option maxHeartbeats 1000000 in
set_option maxRecDepth 100000 in
theorem c_rewriteOf3 {w : Wd} {o ns tn : Nat} {kp : Int32} {σ tx cm : Nat → Int32} (hM : MW w o ns tn kp σ tx cm) (hW : WS σ) (x : Int32) (k : Nat) (hp : plO σ x = some k) : Wr mX8_rewriteOf 3 [.ref o, .int x, .int (nI 3)] w (fun r' w' => r' = some (.int (rewriteOfI σ x (nI 3))) ∧ ∃ cm', MW w' o ns tn kp σ tx cm' ∧ frO o w w') := by
  intro sz
  refine Ev.ofV [some (.ref o), some (.int x), some (.int (nI 3)), none, none, none] (by decide) (Nat.le_of_ble_eq_true rfl) rfl rfl rfl ?_
  have cp := c_plO hM x
  rw [hp] at cp
  have cp : Rd mX8_placeOf 1 [.ref o, .int x] w (some (.int (nI k))) := cp
  have hps := plO_some hp
  have hr := hW.rw hps.1 (by rw [hps.2.2]; exact hps.2.1)
  have hk := hps.1
  refine v_aload_n dX8_rewriteOf_0 rfl ?_
  refine v_iload_n dX8_rewriteOf_1 rfl ?_
  refine u_rV1 oX8_placeOf dX8_rewriteOf_2 ml_X8_101 cp hM.1 (by decide) (Nat.le_of_ble_eq_true rfl) (Nat.le_refl _) (Nat.le_refl _) ?_
  refine v_istore_n dX8_rewriteOf_5 (by decide) rfl ?_
  refine v_iload_n dX8_rewriteOf_6 rfl ?_
  refine v_if_geN (tgt := 12) dX8_rewriteOf_7 (by decide) (by omega) ?_
  refine v_iload_n dX8_rewriteOf_12 rfl ?_
  refine v_iconst (v := nI 0) dX8_rewriteOf_13 (by decide) ?_
  refine v_bipush (v := nI 7) dX8_rewriteOf_14 (by decide) ?_
  refine u_rS3 oX8_in dX8_rewriteOf_16 ml_X8_59 (c_inB (nI 3) 7) (by decide) (Nat.le_of_ble_eq_true rfl) (Nat.le_refl _) (Nat.le_refl _) ?_
  refine v_if_neB (tgt := 25) dX8_rewriteOf_19 (by decide) (fun b19 => ?_) (fun b19 => ?_)
  ·
    refine v_iload_n dX8_rewriteOf_25 rfl ?_
    refine u_rS1 oX8_paper dX8_rewriteOf_26 ml_X8_49 (c_paper k) (by decide) (Nat.le_of_ble_eq_true rfl) (Nat.le_refl _) (Nat.le_refl _) ?_
    refine v_istore dX8_rewriteOf_29 (by decide) rfl ?_
    refine v_sipush (v := nI 272) dX8_rewriteOf_31 (by decide) ?_
    refine v_bipush (v := nI 64) dX8_rewriteOf_34 (by decide) ?_
    refine v_aload_n dX8_rewriteOf_36 rfl ?_
    refine v_get 0 dX8_rewriteOf_37 FTX8 (by decide) rfl fl_X8_7 hM.1 rfl ?_
    refine v_iload dX8_rewriteOf_40 rfl ?_
    refine v_iconst (v := nI 1) dX8_rewriteOf_42 (by decide) ?_
    refine v_iaddN dX8_rewriteOf_43 ?_
    refine v_ialdN _ dX8_rewriteOf_44 hM.2.1 rfl (by omega) (by decide) hr.2.1.1 ?_
    refine v_imulN dX8_rewriteOf_45 ?_
    refine v_iaddN dX8_rewriteOf_46 ?_
    refine v_istore dX8_rewriteOf_47 (by decide) rfl ?_
    refine v_iload_n dX8_rewriteOf_49 rfl ?_
    refine v_tableIn (tgt := 126) (off := 76) dX8_rewriteOf_50 (by decide) (by decide) (by decide) (by decide) ?_
    refine v_aload_n dX8_rewriteOf_126 rfl ?_
    refine v_iload dX8_rewriteOf_127 rfl ?_
    refine v_iconst (v := nI 5) dX8_rewriteOf_129 (by decide) ?_
    refine v_iaddN dX8_rewriteOf_130 ?_
    refine v_aload_n dX8_rewriteOf_131 rfl ?_
    refine v_get 0 dX8_rewriteOf_132 FTX8 (by decide) rfl fl_X8_7 hM.1 rfl ?_
    refine v_iload dX8_rewriteOf_135 rfl ?_
    refine v_iconst (v := nI 4) dX8_rewriteOf_137 (by decide) ?_
    refine v_iaddN dX8_rewriteOf_138 ?_
    refine v_ialdN _ dX8_rewriteOf_139 hM.2.1 rfl (by omega) (by decide) hr.2.2.2.2.1.1 ?_
    refine u_rV2 oX8_words dX8_rewriteOf_140 ml_X8_32 (show Rd mX8_words 0 _ w (some (.int (nI (nwr σ k)))) from c_words hM _ _ (by have := hr.2.2.2.2.1.2; omega)) hM.1 (by decide) (Nat.le_of_ble_eq_true rfl) (Nat.le_refl _) (Nat.le_refl _) ?_
    refine v_iret dX8_rewriteOf_143 rfl (Nat.le_refl _) (Nat.le_refl _) ?_
    exact ⟨rfl, by unfold rewriteOfI; rw [hp]; show _ = some (Value.int (if _ then _ else _)); rw [if_pos (by decide), nt_nI (by omega)]; rfl, cm, hM, frO.rf o w⟩
  ·
    exact absurd b19 (by decide)
set_option maxHeartbeats 1000000 in
set_option maxRecDepth 100000 in
theorem c_rewriteOf4 {w : Wd} {o ns tn : Nat} {kp : Int32} {σ tx cm : Nat → Int32} (hM : MW w o ns tn kp σ tx cm) (hW : WS σ) (x : Int32) (k : Nat) (hp : plO σ x = some k) : Wr mX8_rewriteOf 3 [.ref o, .int x, .int (nI 4)] w (fun r' w' => r' = some (.int (rewriteOfI σ x (nI 4))) ∧ ∃ cm', MW w' o ns tn kp σ tx cm' ∧ frO o w w') := by
  intro sz
  refine Ev.ofV [some (.ref o), some (.int x), some (.int (nI 4)), none, none, none] (by decide) (Nat.le_of_ble_eq_true rfl) rfl rfl rfl ?_
  have cp := c_plO hM x
  rw [hp] at cp
  have cp : Rd mX8_placeOf 1 [.ref o, .int x] w (some (.int (nI k))) := cp
  have hps := plO_some hp
  have hr := hW.rw hps.1 (by rw [hps.2.2]; exact hps.2.1)
  have hk := hps.1
  refine v_aload_n dX8_rewriteOf_0 rfl ?_
  refine v_iload_n dX8_rewriteOf_1 rfl ?_
  refine u_rV1 oX8_placeOf dX8_rewriteOf_2 ml_X8_101 cp hM.1 (by decide) (Nat.le_of_ble_eq_true rfl) (Nat.le_refl _) (Nat.le_refl _) ?_
  refine v_istore_n dX8_rewriteOf_5 (by decide) rfl ?_
  refine v_iload_n dX8_rewriteOf_6 rfl ?_
  refine v_if_geN (tgt := 12) dX8_rewriteOf_7 (by decide) (by omega) ?_
  refine v_iload_n dX8_rewriteOf_12 rfl ?_
  refine v_iconst (v := nI 0) dX8_rewriteOf_13 (by decide) ?_
  refine v_bipush (v := nI 7) dX8_rewriteOf_14 (by decide) ?_
  refine u_rS3 oX8_in dX8_rewriteOf_16 ml_X8_59 (c_inB (nI 4) 7) (by decide) (Nat.le_of_ble_eq_true rfl) (Nat.le_refl _) (Nat.le_refl _) ?_
  refine v_if_neB (tgt := 25) dX8_rewriteOf_19 (by decide) (fun b19 => ?_) (fun b19 => ?_)
  ·
    refine v_iload_n dX8_rewriteOf_25 rfl ?_
    refine u_rS1 oX8_paper dX8_rewriteOf_26 ml_X8_49 (c_paper k) (by decide) (Nat.le_of_ble_eq_true rfl) (Nat.le_refl _) (Nat.le_refl _) ?_
    refine v_istore dX8_rewriteOf_29 (by decide) rfl ?_
    refine v_sipush (v := nI 272) dX8_rewriteOf_31 (by decide) ?_
    refine v_bipush (v := nI 64) dX8_rewriteOf_34 (by decide) ?_
    refine v_aload_n dX8_rewriteOf_36 rfl ?_
    refine v_get 0 dX8_rewriteOf_37 FTX8 (by decide) rfl fl_X8_7 hM.1 rfl ?_
    refine v_iload dX8_rewriteOf_40 rfl ?_
    refine v_iconst (v := nI 1) dX8_rewriteOf_42 (by decide) ?_
    refine v_iaddN dX8_rewriteOf_43 ?_
    refine v_ialdN _ dX8_rewriteOf_44 hM.2.1 rfl (by omega) (by decide) hr.2.1.1 ?_
    refine v_imulN dX8_rewriteOf_45 ?_
    refine v_iaddN dX8_rewriteOf_46 ?_
    refine v_istore dX8_rewriteOf_47 (by decide) rfl ?_
    refine v_iload_n dX8_rewriteOf_49 rfl ?_
    refine v_tableIn (tgt := 144) (off := 94) dX8_rewriteOf_50 (by decide) (by decide) (by decide) (by decide) ?_
    refine v_aload_n dX8_rewriteOf_144 rfl ?_
    refine v_iload_n dX8_rewriteOf_145 rfl ?_
    refine u_rV1 oX8_votesFor dX8_rewriteOf_146 ml_X8_53 (c_votesFor hM x) hM.1 (by decide) (Nat.le_of_ble_eq_true rfl) (Nat.le_refl _) (Nat.le_refl _) ?_
    refine v_iret dX8_rewriteOf_149 rfl (Nat.le_refl _) (Nat.le_refl _) ?_
    exact ⟨rfl, by unfold rewriteOfI; rw [hp]; show _ = some (Value.int (if _ then _ else _)); rw [if_pos (by decide), nt_nI (by omega)]; rfl, cm, hM, frO.rf o w⟩
  ·
    exact absurd b19 (by decide)
set_option maxHeartbeats 1000000 in
set_option maxRecDepth 100000 in
theorem c_rewriteOf5 {w : Wd} {o ns tn : Nat} {kp : Int32} {σ tx cm : Nat → Int32} (hM : MW w o ns tn kp σ tx cm) (hW : WS σ) (x : Int32) (k : Nat) (hp : plO σ x = some k) : Wr mX8_rewriteOf 3 [.ref o, .int x, .int (nI 5)] w (fun r' w' => r' = some (.int (rewriteOfI σ x (nI 5))) ∧ ∃ cm', MW w' o ns tn kp σ tx cm' ∧ frO o w w') := by
  intro sz
  refine Ev.ofV [some (.ref o), some (.int x), some (.int (nI 5)), none, none, none] (by decide) (Nat.le_of_ble_eq_true rfl) rfl rfl rfl ?_
  have cp := c_plO hM x
  rw [hp] at cp
  have cp : Rd mX8_placeOf 1 [.ref o, .int x] w (some (.int (nI k))) := cp
  have hps := plO_some hp
  have hr := hW.rw hps.1 (by rw [hps.2.2]; exact hps.2.1)
  have hk := hps.1
  refine v_aload_n dX8_rewriteOf_0 rfl ?_
  refine v_iload_n dX8_rewriteOf_1 rfl ?_
  refine u_rV1 oX8_placeOf dX8_rewriteOf_2 ml_X8_101 cp hM.1 (by decide) (Nat.le_of_ble_eq_true rfl) (Nat.le_refl _) (Nat.le_refl _) ?_
  refine v_istore_n dX8_rewriteOf_5 (by decide) rfl ?_
  refine v_iload_n dX8_rewriteOf_6 rfl ?_
  refine v_if_geN (tgt := 12) dX8_rewriteOf_7 (by decide) (by omega) ?_
  refine v_iload_n dX8_rewriteOf_12 rfl ?_
  refine v_iconst (v := nI 0) dX8_rewriteOf_13 (by decide) ?_
  refine v_bipush (v := nI 7) dX8_rewriteOf_14 (by decide) ?_
  refine u_rS3 oX8_in dX8_rewriteOf_16 ml_X8_59 (c_inB (nI 5) 7) (by decide) (Nat.le_of_ble_eq_true rfl) (Nat.le_refl _) (Nat.le_refl _) ?_
  refine v_if_neB (tgt := 25) dX8_rewriteOf_19 (by decide) (fun b19 => ?_) (fun b19 => ?_)
  ·
    refine v_iload_n dX8_rewriteOf_25 rfl ?_
    refine u_rS1 oX8_paper dX8_rewriteOf_26 ml_X8_49 (c_paper k) (by decide) (Nat.le_of_ble_eq_true rfl) (Nat.le_refl _) (Nat.le_refl _) ?_
    refine v_istore dX8_rewriteOf_29 (by decide) rfl ?_
    refine v_sipush (v := nI 272) dX8_rewriteOf_31 (by decide) ?_
    refine v_bipush (v := nI 64) dX8_rewriteOf_34 (by decide) ?_
    refine v_aload_n dX8_rewriteOf_36 rfl ?_
    refine v_get 0 dX8_rewriteOf_37 FTX8 (by decide) rfl fl_X8_7 hM.1 rfl ?_
    refine v_iload dX8_rewriteOf_40 rfl ?_
    refine v_iconst (v := nI 1) dX8_rewriteOf_42 (by decide) ?_
    refine v_iaddN dX8_rewriteOf_43 ?_
    refine v_ialdN _ dX8_rewriteOf_44 hM.2.1 rfl (by omega) (by decide) hr.2.1.1 ?_
    refine v_imulN dX8_rewriteOf_45 ?_
    refine v_iaddN dX8_rewriteOf_46 ?_
    refine v_istore dX8_rewriteOf_47 (by decide) rfl ?_
    refine v_iload_n dX8_rewriteOf_49 rfl ?_
    refine v_tableIn (tgt := 150) (off := 100) dX8_rewriteOf_50 (by decide) (by decide) (by decide) (by decide) ?_
    refine v_aload_n dX8_rewriteOf_150 rfl ?_
    refine v_get 0 dX8_rewriteOf_151 FTX8 (by decide) rfl fl_X8_7 hM.1 rfl ?_
    refine v_iload dX8_rewriteOf_154 rfl ?_
    refine v_iconst (v := nI 3) dX8_rewriteOf_156 (by decide) ?_
    refine v_iaddN dX8_rewriteOf_157 ?_
    refine v_iald _ dX8_rewriteOf_158 hM.2.1 rfl (by omega) (by decide) ?_
    refine v_iret dX8_rewriteOf_159 rfl (Nat.le_refl _) (Nat.le_refl _) ?_
    exact ⟨rfl, by unfold rewriteOfI; rw [hp]; show _ = some (Value.int (if _ then _ else _)); rw [if_pos (by decide), nt_nI (by omega)]; rfl, cm, hM, frO.rf o w⟩
  ·
    exact absurd b19 (by decide)
set_option maxHeartbeats 1000000 in
set_option maxRecDepth 100000 in
theorem c_rewriteOf6 {w : Wd} {o ns tn : Nat} {kp : Int32} {σ tx cm : Nat → Int32} (hM : MW w o ns tn kp σ tx cm) (hW : WS σ) (x : Int32) (k : Nat) (hp : plO σ x = some k) : Wr mX8_rewriteOf 3 [.ref o, .int x, .int (nI 6)] w (fun r' w' => r' = some (.int (rewriteOfI σ x (nI 6))) ∧ ∃ cm', MW w' o ns tn kp σ tx cm' ∧ frO o w w') := by
  intro sz
  refine Ev.ofV [some (.ref o), some (.int x), some (.int (nI 6)), none, none, none] (by decide) (Nat.le_of_ble_eq_true rfl) rfl rfl rfl ?_
  have cp := c_plO hM x
  rw [hp] at cp
  have cp : Rd mX8_placeOf 1 [.ref o, .int x] w (some (.int (nI k))) := cp
  have hps := plO_some hp
  have hr := hW.rw hps.1 (by rw [hps.2.2]; exact hps.2.1)
  have hk := hps.1
  have hlb := hW.2.2.2.2.2.1 (nt (σ (1808 + 65 * k + 1))) hr.2.1.2
  have hp24 := hr.2.1.2
  have hl4 := hr.2.2.2.2.1.2
  have hl5 := hlb.1.2
  have n1 := okT_nw hr.2.2.2.2.2
  have n2 : nw (sft σ (272 + 64 * (nt (σ (1808 + 65 * k + 1))) + 4)) (nt (σ (272 + 64 * (nt (σ (1808 + 65 * k + 1)))))) ≤ 30 := by
    rcases hlb.2 with h0 | h0
    · rw [h0]; simp [nw, cnt]
    · have := okT_nw h0; omega
  have ca := c_apart hM (1808 + 65 * k + 5) (nt (σ (1808 + 65 * k + 4))) (272 + 64 * (nt (σ (1808 + 65 * k + 1))) + 4) (nt (σ (272 + 64 * (nt (σ (1808 + 65 * k + 1)))))) (by omega) (by omega) (by omega) n2
  refine v_aload_n dX8_rewriteOf_0 rfl ?_
  refine v_iload_n dX8_rewriteOf_1 rfl ?_
  refine u_rV1 oX8_placeOf dX8_rewriteOf_2 ml_X8_101 cp hM.1 (by decide) (Nat.le_of_ble_eq_true rfl) (Nat.le_refl _) (Nat.le_refl _) ?_
  refine v_istore_n dX8_rewriteOf_5 (by decide) rfl ?_
  refine v_iload_n dX8_rewriteOf_6 rfl ?_
  refine v_if_geN (tgt := 12) dX8_rewriteOf_7 (by decide) (by omega) ?_
  refine v_iload_n dX8_rewriteOf_12 rfl ?_
  refine v_iconst (v := nI 0) dX8_rewriteOf_13 (by decide) ?_
  refine v_bipush (v := nI 7) dX8_rewriteOf_14 (by decide) ?_
  refine u_rS3 oX8_in dX8_rewriteOf_16 ml_X8_59 (c_inB (nI 6) 7) (by decide) (Nat.le_of_ble_eq_true rfl) (Nat.le_refl _) (Nat.le_refl _) ?_
  refine v_if_neB (tgt := 25) dX8_rewriteOf_19 (by decide) (fun b19 => ?_) (fun b19 => ?_)
  ·
    refine v_iload_n dX8_rewriteOf_25 rfl ?_
    refine u_rS1 oX8_paper dX8_rewriteOf_26 ml_X8_49 (c_paper k) (by decide) (Nat.le_of_ble_eq_true rfl) (Nat.le_refl _) (Nat.le_refl _) ?_
    refine v_istore dX8_rewriteOf_29 (by decide) rfl ?_
    refine v_sipush (v := nI 272) dX8_rewriteOf_31 (by decide) ?_
    refine v_bipush (v := nI 64) dX8_rewriteOf_34 (by decide) ?_
    refine v_aload_n dX8_rewriteOf_36 rfl ?_
    refine v_get 0 dX8_rewriteOf_37 FTX8 (by decide) rfl fl_X8_7 hM.1 rfl ?_
    refine v_iload dX8_rewriteOf_40 rfl ?_
    refine v_iconst (v := nI 1) dX8_rewriteOf_42 (by decide) ?_
    refine v_iaddN dX8_rewriteOf_43 ?_
    refine v_ialdN _ dX8_rewriteOf_44 hM.2.1 rfl (by omega) (by decide) hr.2.1.1 ?_
    refine v_imulN dX8_rewriteOf_45 ?_
    refine v_iaddN dX8_rewriteOf_46 ?_
    refine v_istore dX8_rewriteOf_47 (by decide) rfl ?_
    refine v_iload_n dX8_rewriteOf_49 rfl ?_
    refine v_tableIn (tgt := 160) (off := 110) dX8_rewriteOf_50 (by decide) (by decide) (by decide) (by decide) ?_
    refine v_aload_n dX8_rewriteOf_160 rfl ?_
    refine v_iload dX8_rewriteOf_161 rfl ?_
    refine v_iconst (v := nI 5) dX8_rewriteOf_163 (by decide) ?_
    refine v_iaddN dX8_rewriteOf_164 ?_
    refine v_aload_n dX8_rewriteOf_165 rfl ?_
    refine v_get 0 dX8_rewriteOf_166 FTX8 (by decide) rfl fl_X8_7 hM.1 rfl ?_
    refine v_iload dX8_rewriteOf_169 rfl ?_
    refine v_iconst (v := nI 4) dX8_rewriteOf_171 (by decide) ?_
    refine v_iaddN dX8_rewriteOf_172 ?_
    refine v_ialdN _ dX8_rewriteOf_173 hM.2.1 rfl (by omega) (by decide) hr.2.2.2.2.1.1 ?_
    refine v_iload dX8_rewriteOf_174 rfl ?_
    refine v_iconst (v := nI 4) dX8_rewriteOf_176 (by decide) ?_
    refine v_iaddN dX8_rewriteOf_177 ?_
    refine v_aload_n dX8_rewriteOf_178 rfl ?_
    refine v_get 0 dX8_rewriteOf_179 FTX8 (by decide) rfl fl_X8_7 hM.1 rfl ?_
    refine v_iload dX8_rewriteOf_182 rfl ?_
    refine v_ialdN _ dX8_rewriteOf_184 hM.2.1 rfl (by have := hr.2.1.2; omega) (by decide) (hW.2.2.2.2.2.1 (nt (σ (1808 + 65 * k + 1))) hr.2.1.2).1.1 ?_
    refine v_wV4 oX8_apart dX8_rewriteOf_185 ml_X8_118 ca hM.1 (by decide) (Nat.le_of_ble_eq_true rfl) (Nat.le_refl _) (Nat.le_refl _) (fun r' w1 hq => ?_)
    obtain ⟨rfl, cm1, rfl⟩ := hq
    refine v_eqs (stk' := [.int (rwO σ k x 6)]) rfl ?_
    refine v_iret dX8_rewriteOf_188 rfl (Nat.le_refl _) (Nat.le_refl _) ?_
    exact ⟨rfl, by unfold rewriteOfI; rw [hp]; show _ = some (Value.int (if _ then _ else _)); rw [if_pos (by decide), nt_nI (by omega)], cm1, hM.cm cm1, (frO.rf o w).wu _ (by omega) (by omega)⟩
  ·
    exact absurd b19 (by decide)
set_option maxHeartbeats 1000000 in
set_option maxRecDepth 100000 in
theorem c_rewriteOf7 {w : Wd} {o ns tn : Nat} {kp : Int32} {σ tx cm : Nat → Int32} (hM : MW w o ns tn kp σ tx cm) (hW : WS σ) (x : Int32) (k : Nat) (hp : plO σ x = some k) : Wr mX8_rewriteOf 3 [.ref o, .int x, .int (nI 7)] w (fun r' w' => r' = some (.int (rewriteOfI σ x (nI 7))) ∧ ∃ cm', MW w' o ns tn kp σ tx cm' ∧ frO o w w') := by
  intro sz
  refine Ev.ofV [some (.ref o), some (.int x), some (.int (nI 7)), none, none, none] (by decide) (Nat.le_of_ble_eq_true rfl) rfl rfl rfl ?_
  have cp := c_plO hM x
  rw [hp] at cp
  have cp : Rd mX8_placeOf 1 [.ref o, .int x] w (some (.int (nI k))) := cp
  have hps := plO_some hp
  have hr := hW.rw hps.1 (by rw [hps.2.2]; exact hps.2.1)
  have hk := hps.1
  have hp24 := hr.2.1.2
  have cb : Rd mX8_best 2 [.ref o, .int (nI ((nt (σ (1808 + 65 * k + 1))) / 3)), .int (nI ((nt (σ (1808 + 65 * k + 1))) % 3))] w (some (.int (oI (bst σ (nt (σ (1808 + 65 * k + 1))) (nt (σ 16)) (limW σ ((nt (σ (1808 + 65 * k + 1))) / 3)) 16)))) := by
    have c := c_best hM ((nt (σ (1808 + 65 * k + 1))) / 3) ((nt (σ (1808 + 65 * k + 1))) % 3) ⟨by omega, by omega⟩ (hW.1 _ (by omega)) (hW.2.2.1 _ (hW.1 _ (by omega)).2) hW.2.2.2.1.1 (fun j hj h0 => (hW.rw hj h0).2.2.2.2.1)
    rw [show 3 * ((nt (σ (1808 + 65 * k + 1))) / 3) + (nt (σ (1808 + 65 * k + 1))) % 3 = (nt (σ (1808 + 65 * k + 1))) by omega] at c
    exact c
  refine v_aload_n dX8_rewriteOf_0 rfl ?_
  refine v_iload_n dX8_rewriteOf_1 rfl ?_
  refine u_rV1 oX8_placeOf dX8_rewriteOf_2 ml_X8_101 cp hM.1 (by decide) (Nat.le_of_ble_eq_true rfl) (Nat.le_refl _) (Nat.le_refl _) ?_
  refine v_istore_n dX8_rewriteOf_5 (by decide) rfl ?_
  refine v_iload_n dX8_rewriteOf_6 rfl ?_
  refine v_if_geN (tgt := 12) dX8_rewriteOf_7 (by decide) (by omega) ?_
  refine v_iload_n dX8_rewriteOf_12 rfl ?_
  refine v_iconst (v := nI 0) dX8_rewriteOf_13 (by decide) ?_
  refine v_bipush (v := nI 7) dX8_rewriteOf_14 (by decide) ?_
  refine u_rS3 oX8_in dX8_rewriteOf_16 ml_X8_59 (c_inB (nI 7) 7) (by decide) (Nat.le_of_ble_eq_true rfl) (Nat.le_refl _) (Nat.le_refl _) ?_
  refine v_if_neB (tgt := 25) dX8_rewriteOf_19 (by decide) (fun b19 => ?_) (fun b19 => ?_)
  ·
    refine v_iload_n dX8_rewriteOf_25 rfl ?_
    refine u_rS1 oX8_paper dX8_rewriteOf_26 ml_X8_49 (c_paper k) (by decide) (Nat.le_of_ble_eq_true rfl) (Nat.le_refl _) (Nat.le_refl _) ?_
    refine v_istore dX8_rewriteOf_29 (by decide) rfl ?_
    refine v_sipush (v := nI 272) dX8_rewriteOf_31 (by decide) ?_
    refine v_bipush (v := nI 64) dX8_rewriteOf_34 (by decide) ?_
    refine v_aload_n dX8_rewriteOf_36 rfl ?_
    refine v_get 0 dX8_rewriteOf_37 FTX8 (by decide) rfl fl_X8_7 hM.1 rfl ?_
    refine v_iload dX8_rewriteOf_40 rfl ?_
    refine v_iconst (v := nI 1) dX8_rewriteOf_42 (by decide) ?_
    refine v_iaddN dX8_rewriteOf_43 ?_
    refine v_ialdN _ dX8_rewriteOf_44 hM.2.1 rfl (by omega) (by decide) hr.2.1.1 ?_
    refine v_imulN dX8_rewriteOf_45 ?_
    refine v_iaddN dX8_rewriteOf_46 ?_
    refine v_istore dX8_rewriteOf_47 (by decide) rfl ?_
    refine v_iload_n dX8_rewriteOf_49 rfl ?_
    refine v_tableOut (tgt := 189) dX8_rewriteOf_50 (by decide) (by decide) ?_
    refine v_aload_n dX8_rewriteOf_189 rfl ?_
    refine v_aload_n dX8_rewriteOf_190 rfl ?_
    refine v_get 0 dX8_rewriteOf_191 FTX8 (by decide) rfl fl_X8_7 hM.1 rfl ?_
    refine v_iload dX8_rewriteOf_194 rfl ?_
    refine v_iconst (v := nI 1) dX8_rewriteOf_196 (by decide) ?_
    refine v_iaddN dX8_rewriteOf_197 ?_
    refine v_ialdN _ dX8_rewriteOf_198 hM.2.1 rfl (by omega) (by decide) hr.2.1.1 ?_
    refine v_iconst (v := nI 3) dX8_rewriteOf_199 (by decide) ?_
    refine v_idiv dX8_rewriteOf_200 (by decide) ?_
    rw [nI_div3 hr.2.1.2]
    refine v_aload_n dX8_rewriteOf_201 rfl ?_
    refine v_get 0 dX8_rewriteOf_202 FTX8 (by decide) rfl fl_X8_7 hM.1 rfl ?_
    refine v_iload dX8_rewriteOf_205 rfl ?_
    refine v_iconst (v := nI 1) dX8_rewriteOf_207 (by decide) ?_
    refine v_iaddN dX8_rewriteOf_208 ?_
    refine v_ialdN _ dX8_rewriteOf_209 hM.2.1 rfl (by omega) (by decide) hr.2.1.1 ?_
    refine v_iconst (v := nI 3) dX8_rewriteOf_210 (by decide) ?_
    refine v_irem dX8_rewriteOf_211 (by decide) ?_
    rw [nI_mod3 hr.2.1.2]
    refine u_rV2 oX8_best dX8_rewriteOf_212 ml_X8_104 cb hM.1 (by decide) (Nat.le_of_ble_eq_true rfl) (Nat.le_refl _) (Nat.le_refl _) ?_
    refine v_iload_n dX8_rewriteOf_215 rfl ?_
    refine v_icmp_ne (tgt := 223) dX8_rewriteOf_216 (by decide) (fun b216 => ?_) (fun b216 => ?_)
    ·
      refine v_iconst (v := nI 0) dX8_rewriteOf_223 (by decide) ?_
      refine v_iret dX8_rewriteOf_224 rfl (Nat.le_refl _) (Nat.le_refl _) ?_
      exact ⟨rfl, by unfold rewriteOfI; rw [hp]; show _ = some (Value.int (if _ then _ else _)); rw [if_pos (by decide), nt_nI (by omega)]; show _ = some (Value.int (b2i (decide _))); rw [decide_eq_false b216]; rfl, cm, hM, frO.rf o w⟩
    ·
      refine v_iconst (v := nI 1) dX8_rewriteOf_219 (by decide) ?_
      refine v_goto (tgt := 224) dX8_rewriteOf_220 (by decide) ?_
      refine v_iret dX8_rewriteOf_224 rfl (Nat.le_refl _) (Nat.le_refl _) ?_
      exact ⟨rfl, by unfold rewriteOfI; rw [hp]; show _ = some (Value.int (if _ then _ else _)); rw [if_pos (by decide), nt_nI (by omega)]; show _ = some (Value.int (b2i (decide _))); rw [decide_eq_true b216]; rfl, cm, hM, frO.rf o w⟩
  ·
    exact absurd b19 (by decide)
theorem c_rewriteOf {w : Wd} {o ns tn : Nat} {kp : Int32} {σ tx cm : Nat → Int32} (hM : MW w o ns tn kp σ tx cm) (hW : WS σ) (x z : Int32) : Wr mX8_rewriteOf 3 [.ref o, .int x, .int z] w (fun r' w' => r' = some (.int (rewriteOfI σ x z)) ∧ ∃ cm', MW w' o ns tn kp σ tx cm' ∧ frO o w w') := by
  cases hp : plO σ x with
  | none => exact c_rewriteOf_no hM x z hp
  | some k =>
    by_cases h2 : inB z 7 = false
    · exact c_rewriteOf_out hM hW x z k hp h2
    · have hz := inB_ub (by omega) (bfalse h2)
      have hz2 := hz.2
      rw [hz.1]
      generalize nt z = c at hz2 ⊢
      match c, hz2 with
      | 0, _ => exact c_rewriteOf0 hM hW x k hp
      | 1, _ => exact c_rewriteOf1 hM hW x k hp
      | 2, _ => exact c_rewriteOf2 hM hW x k hp
      | 3, _ => exact c_rewriteOf3 hM hW x k hp
      | 4, _ => exact c_rewriteOf4 hM hW x k hp
      | 5, _ => exact c_rewriteOf5 hM hW x k hp
      | 6, _ => exact c_rewriteOf6 hM hW x k hp
      | 7, _ => exact c_rewriteOf7 hM hW x k hp
