theorem b2i_inj {a b : Bool} (h : b2i a = b2i b) : a = b := by
  cases a <;> cases b <;> first | rfl | (exact absurd h (by decide))
theorem nwl_le {σ : Nat → Int32} {p : Nat} (h : ub (σ (272 + 64 * p)) 61) : nwl σ p ≤ 61 := by
  have h1 := nw_le (sft σ (272 + 64 * p + 4)) (nt (σ (272 + 64 * p)))
  have h2 := h.2
  unfold nwl ln
  omega
theorem lbS_le {σ : Nat → Int32} {r k s a b : Nat} (h : nwl σ (3 * a + b) ≤ 61) : lbS σ r k s a b ≤ s + 61 := by
  unfold lbS
  split
  · split <;> omega
  · split <;> omega
theorem lbI_le {σ : Nat → Int32} {r k s a : Nat} (h : ∀ b, b < 3 → nwl σ (3 * a + b) ≤ 61) : ∀ b, b ≤ 3 → lbI σ r k a s b ≤ s + 61 * b
  | 0, _ => by simp [lbI]
  | b + 1, hb => by
    have h1 := lbI_le (r := r) (k := k) (s := s) h b (by omega)
    have h2 := lbS_le (σ := σ) (r := r) (k := k) (s := lbI σ r k a s b) (a := a) (b := b) (h b (by omega))
    simp only [lbI]
    omega
theorem lbO_le {σ : Nat → Int32} {r k : Nat} (h : ∀ p, p < 24 → nwl σ p ≤ 61) : ∀ a, a ≤ 8 → lbO σ r k a ≤ 183 * a
  | 0, _ => by simp [lbO]
  | a + 1, ha => by
    have h1 := lbO_le (r := r) (k := k) h a (by omega)
    have h2 := lbI_le (σ := σ) (r := r) (k := k) (s := lbO σ r k a) (a := a) (fun b hb => h _ (by omega)) 3 (by omega)
    simp only [lbO]
    split <;> omega
/-- how many rewrites for the same label are ahead of the one in place k -/
def ahd (σ : Nat → Int32) (k j : Nat) : Bool := decide (0 ≤ σ (1808 + 65 * j)) && (σ (1808 + 65 * j + 1) == σ (1808 + 65 * k + 1)) && (decide (vfk σ k < vfk σ j) || (decide (vfk σ j = vfk σ k) && decide (σ (1808 + 65 * j) < σ (1808 + 65 * k))))
def rkB (σ : Nat → Int32) (p : Nat) (x : Int32) (k : Nat) : Bool := cand σ p k && (nI (cnt (ahd σ k) 16) == x)
def rkI (σ : Nat → Int32) (p : Nat) (x : Int32) : Int32 := if fst (rkB σ p x) 16 < 16 then σ (1808 + 65 * fst (rkB σ p x) 16) else -5
set_option maxHeartbeats 4000000 in
set_option maxRecDepth 100000 in
theorem c_labelsOf {w : Wd} {o ns tn : Nat} {kp : Int32} {σ tx cm : Nat → Int32} (hM : MW w o ns tn kp σ tx cm) (hl : ∀ p, p < 24 → ub (σ (272 + 64 * p)) 61) (r k : Nat) (hr : r < 4) (hk : k ≤ 3) : Rd mX8_labelsOf 2 [.ref o, .int (nI r), .int (nI k)] w (some (.int (nI (lbO σ r k 8)))) := by
  intro sz
  refine Ev.ofV [some (.ref o), some (.int (nI r)), some (.int (nI k)), none, none, none, none, none, none] (by decide) (Nat.le_of_ble_eq_true rfl) rfl rfl rfl ?_
  have hnl : ∀ p, p < 24 → nwl σ p ≤ 61 := fun p hp => nwl_le (hl p hp)
  refine v_iconst (v := nI 0) dX8_labelsOf_0 (by decide) ?_
  refine v_istore_n dX8_labelsOf_1 (by decide) rfl ?_
  refine v_iconst (v := nI 0) dX8_labelsOf_2 (by decide) ?_
  refine v_istore dX8_labelsOf_3 (by decide) rfl ?_
  have LP5 : ∀ a, a ≤ 8 → V mX8_labelsOf 2 0 0 (fun r' w' z => r' = some (.int (nI (lbO σ r k 8))) ∧ w' = w ∧ z = sz) (w) (sz) (0) (0) [some (.ref o), some (.int (nI r)), some (.int (nI k)), some (.int (nI (lbO σ r k a))), some (.int (nI a)), none, none, none, none] [] 5 := by
    refine dn (fun a ha iha => ?_)
    have hO := lbO_le (r := r) (k := k) hnl a ha
    refine v_iload dX8_labelsOf_5 rfl ?_
    refine v_bipush (v := nI 8) dX8_labelsOf_7 (by decide) ?_
    refine v_icmp_geN (tgt := 148) dX8_labelsOf_9 (by decide) (by omega) (by omega) (fun b9 => ?_) (fun b9 => ?_)
    ·
      refine v_iload_n dX8_labelsOf_148 rfl ?_
      refine v_iret dX8_labelsOf_149 rfl (Nat.le_refl _) (Nat.le_refl _) ?_
      have ea : a = 8 := by omega
      subst ea
      exact ⟨rfl, rfl, rfl⟩
    ·
      refine v_iconst (v := nI 0) dX8_labelsOf_12 (by decide) ?_
      refine v_istore dX8_labelsOf_13 (by decide) rfl ?_
      have LP15 : ∀ b, b ≤ 3 → (b = 0 ∨ σ a = nI r) → V mX8_labelsOf 2 0 0 (fun r' w' z => r' = some (.int (nI (lbO σ r k 8))) ∧ w' = w ∧ z = sz) (w) (sz) (0) (0) [some (.ref o), some (.int (nI r)), some (.int (nI k)), some (.int (nI (lbI σ r k a (lbO σ r k a) b))), some (.int (nI a)), some (.int (nI b)), none, none, none] [] 15 := by
        refine dn (fun b hb ihb => ?_)
        intro hz
        have hI := lbI_le (σ := σ) (r := r) (k := k) (s := lbO σ r k a) (a := a) (fun b hb => hnl _ (by omega)) b hb
        refine v_iload dX8_labelsOf_15 rfl ?_
        refine v_iconst (v := nI 3) dX8_labelsOf_17 (by decide) ?_
        refine v_icmp_geN (tgt := 142) dX8_labelsOf_18 (by decide) (by omega) (by omega) (fun b18 => ?_) (fun b18 => ?_)
        ·
          have e3 : b = 3 := by omega
          subst e3
          have q9 : lbO σ r k (a + 1) = lbI σ r k a (lbO σ r k a) 3 := by
            have h9 : σ a = nI r := by
              rcases hz with h | h
              · cases h
              · exact h
            simp only [lbO]
            rw [if_pos h9]
          refine v_iincN dX8_labelsOf_142 (by decide) rfl rfl rfl ?_
          refine v_goto (tgt := 5) dX8_labelsOf_145 (by decide) ?_
          refine v_drop 5 ?_
          refine v_drop 6 ?_
          refine v_drop 7 ?_
          refine v_drop 8 ?_
          refine v_eqL ?_ (iha (by omega))
          rw [q9]
          rfl
        ·
          refine v_aload_n dX8_labelsOf_21 rfl ?_
          refine v_get 0 dX8_labelsOf_22 FTX8 (by decide) rfl fl_X8_7 hM.1 rfl ?_
          refine v_iload dX8_labelsOf_25 rfl ?_
          refine v_iald _ dX8_labelsOf_27 hM.2.1 rfl (by omega) (by decide) ?_
          refine v_iload_n dX8_labelsOf_28 rfl ?_
          refine v_icmp_ne (tgt := 142) dX8_labelsOf_29 (by decide) (fun b29 => ?_) (fun b29 => ?_)
          ·
            have e3 : b = 0 := by
              rcases hz with h | h
              · exact h
              · exact absurd h b29
            subst e3
            have q9 : lbO σ r k (a + 1) = lbI σ r k a (lbO σ r k a) 0 := by
              simp only [lbO]
              rw [if_neg b29]
              rfl
            refine v_iincN dX8_labelsOf_142 (by decide) rfl rfl rfl ?_
            refine v_goto (tgt := 5) dX8_labelsOf_145 (by decide) ?_
            refine v_drop 5 ?_
            refine v_drop 6 ?_
            refine v_drop 7 ?_
            refine v_drop 8 ?_
            refine v_eqL ?_ (iha (by omega))
            rw [q9]
            rfl
          ·
            refine v_aload_n dX8_labelsOf_32 rfl ?_
            refine v_get 0 dX8_labelsOf_33 FTX8 (by decide) rfl fl_X8_7 hM.1 rfl ?_
            refine v_bipush (v := nI 8) dX8_labelsOf_36 (by decide) ?_
            refine v_iload_n dX8_labelsOf_38 rfl ?_
            refine v_iaddN dX8_labelsOf_39 ?_
            refine v_iald _ dX8_labelsOf_40 hM.2.1 rfl (by omega) (by decide) ?_
            refine v_iload dX8_labelsOf_41 rfl ?_
            refine v_ishr dX8_labelsOf_43 ?_
            refine v_iconst (v := nI 1) dX8_labelsOf_44 (by decide) ?_
            refine v_iand dX8_labelsOf_45 ?_
            refine v_iconst (v := nI 1) dX8_labelsOf_46 (by decide) ?_
            refine v_icmp_ne (tgt := 54) dX8_labelsOf_47 (by decide) (fun b47 => ?_) (fun b47 => ?_)
            ·
              have g1 : askB σ r b = false := by simp [askB, b47]
              refine v_iconst (v := nI 0) dX8_labelsOf_54 (by decide) ?_
              refine v_istore dX8_labelsOf_55 (by decide) rfl ?_
              refine v_aload_n dX8_labelsOf_57 rfl ?_
              refine v_iload dX8_labelsOf_58 rfl ?_
              refine v_iload dX8_labelsOf_60 rfl ?_
              refine u_rV2 oX8_isLabel dX8_labelsOf_62 ml_X8_75 (show Rd mX8_isLabel 1 _ w (some (.int (b2i (decide (0 < ln σ (3 * a + b)))))) from c_isLabel hM a b ⟨by omega, by omega⟩ (hl _ (by omega))) hM.1 (by decide) (Nat.le_of_ble_eq_true rfl) (Nat.le_refl _) (Nat.le_refl _) ?_
              refine v_istore dX8_labelsOf_65 (by decide) rfl ?_
              refine v_iload_n dX8_labelsOf_67 rfl ?_
              refine v_iconst (v := nI 3) dX8_labelsOf_68 (by decide) ?_
              refine v_icmp_neN (tgt := 98) dX8_labelsOf_69 (by decide) (by omega) (by omega) (fun b69 => ?_) (fun b69 => ?_)
              ·
                have JN : ∀ x, x = (if ((askB σ r b == !decide (k = 2)) && (decide (0 < ln σ (3 * a + b)) == !decide (k = 1))) = true then 1 else 0) → V mX8_labelsOf 2 0 0 (fun r' w' z => r' = some (.int (nI (lbO σ r k 8))) ∧ w' = w ∧ z = sz) (w) (sz) (0) (0) [some (.ref o), some (.int (nI r)), some (.int (nI k)), some (.int (nI (lbI σ r k a (lbO σ r k a) b))), some (.int (nI a)), some (.int (nI b)), none, none, none] [.int (nI x), .int (nI (lbI σ r k a (lbO σ r k a) b))] 134 := by
                  intro x hx
                  have hz29 : σ a = nI r := b29
                  have q3 : lbI σ r k a (lbO σ r k a) (b + 1) = lbI σ r k a (lbO σ r k a) b + x := by rw [hx]; simp only [lbI, lbS]; rw [if_neg b69]
                  refine v_iaddN dX8_labelsOf_134 ?_
                  refine v_istore_n dX8_labelsOf_135 (by decide) rfl ?_
                  refine v_iincN dX8_labelsOf_136 (by decide) rfl rfl rfl ?_
                  refine v_goto (tgt := 15) dX8_labelsOf_139 (by decide) ?_
                  refine v_eqL ?_ (ihb (by omega) (Or.inr hz29))
                  rw [q3]
                  rfl
                refine v_iload_n dX8_labelsOf_98 rfl ?_
                refine v_iload dX8_labelsOf_99 rfl ?_
                refine v_iload_n dX8_labelsOf_101 rfl ?_
                refine v_iconst (v := nI 2) dX8_labelsOf_102 (by decide) ?_
                refine v_icmp_eqN (tgt := 110) dX8_labelsOf_103 (by decide) (by omega) (by omega) (fun b103 => ?_) (fun b103 => ?_)
                ·
                  have g3 : decide (k = 2) = true := by simp [b103]
                  refine v_iconst (v := nI 0) dX8_labelsOf_110 (by decide) ?_
                  refine v_icmp_neN (tgt := 133) dX8_labelsOf_111 (by decide) (by decide) (by decide) (fun z => absurd z (by decide)) (fun _ => ?_)
                  refine v_iload dX8_labelsOf_114 rfl ?_
                  refine v_iload_n dX8_labelsOf_116 rfl ?_
                  refine v_iconst (v := nI 1) dX8_labelsOf_117 (by decide) ?_
                  refine v_icmp_eqN (tgt := 125) dX8_labelsOf_118 (by decide) (by omega) (by omega) (fun b118 => ?_) (fun b118 => ?_)
                  ·
                    have g4 : nI 0 = b2i (!decide (k = 1)) := by simp [b118, b2i]
                    refine v_iconst (v := nI 0) dX8_labelsOf_125 (by decide) ?_
                    refine v_icmp_ne (tgt := 133) dX8_labelsOf_126 (by decide) (fun b126 => ?_) (fun b126 => ?_)
                    ·
                      rw [g4] at b126
                      have g6 : (decide (0 < ln σ (3 * a + b)) == !decide (k = 1)) = false := by
                        cases h6 : (decide (0 < ln σ (3 * a + b)) == !decide (k = 1))
                        · rfl
                        · exact absurd (by rw [eq_of_beq h6]) b126
                      refine v_iconst (v := nI 0) dX8_labelsOf_133 (by decide) ?_
                      refine v_drop 6 ?_
                      refine v_drop 7 ?_
                      exact JN 0 (by rw [g6]; simp)
                    ·
                      rw [g4] at b126
                      have g6 : decide (0 < ln σ (3 * a + b)) = !decide (k = 1) := b2i_inj b126
                      refine v_iconst (v := nI 1) dX8_labelsOf_129 (by decide) ?_
                      refine v_goto (tgt := 134) dX8_labelsOf_130 (by decide) ?_
                      refine v_drop 6 ?_
                      refine v_drop 7 ?_
                      exact JN 1 (by rw [g6, g1, g3]; simp)
                  ·
                    have g4 : nI 1 = b2i (!decide (k = 1)) := by simp [b118, b2i]
                    refine v_iconst (v := nI 1) dX8_labelsOf_121 (by decide) ?_
                    refine v_goto (tgt := 126) dX8_labelsOf_122 (by decide) ?_
                    refine v_icmp_ne (tgt := 133) dX8_labelsOf_126 (by decide) (fun b126 => ?_) (fun b126 => ?_)
                    ·
                      rw [g4] at b126
                      have g6 : (decide (0 < ln σ (3 * a + b)) == !decide (k = 1)) = false := by
                        cases h6 : (decide (0 < ln σ (3 * a + b)) == !decide (k = 1))
                        · rfl
                        · exact absurd (by rw [eq_of_beq h6]) b126
                      refine v_iconst (v := nI 0) dX8_labelsOf_133 (by decide) ?_
                      refine v_drop 6 ?_
                      refine v_drop 7 ?_
                      exact JN 0 (by rw [g6]; simp)
                    ·
                      rw [g4] at b126
                      have g6 : decide (0 < ln σ (3 * a + b)) = !decide (k = 1) := b2i_inj b126
                      refine v_iconst (v := nI 1) dX8_labelsOf_129 (by decide) ?_
                      refine v_goto (tgt := 134) dX8_labelsOf_130 (by decide) ?_
                      refine v_drop 6 ?_
                      refine v_drop 7 ?_
                      exact JN 1 (by rw [g6, g1, g3]; simp)
                ·
                  have g3 : decide (k = 2) = false := by simp [b103]
                  refine v_iconst (v := nI 1) dX8_labelsOf_106 (by decide) ?_
                  refine v_goto (tgt := 111) dX8_labelsOf_107 (by decide) ?_
                  refine v_icmp_neN (tgt := 133) dX8_labelsOf_111 (by decide) (by decide) (by decide) (fun _ => ?_) (fun z => absurd z (by decide))
                  refine v_iconst (v := nI 0) dX8_labelsOf_133 (by decide) ?_
                  refine v_drop 6 ?_
                  refine v_drop 7 ?_
                  exact JN 0 (by rw [g1, g3]; simp)
              ·
                refine v_aload_n dX8_labelsOf_72 rfl ?_
                refine v_iload dX8_labelsOf_73 rfl ?_
                refine v_iload dX8_labelsOf_75 rfl ?_
                refine u_rV2 oX8_wordsOf dX8_labelsOf_77 ml_X8_42 (show Rd mX8_wordsOf 1 _ w (some (.int (nI (nwl σ (3 * a + b))))) from c_wordsOf hM a b ⟨by omega, by omega⟩ (hl _ (by omega))) hM.1 (by decide) (Nat.le_of_ble_eq_true rfl) (Nat.le_refl _) (Nat.le_refl _) ?_
                refine v_istore dX8_labelsOf_80 (by decide) rfl ?_
                refine v_iload dX8_labelsOf_82 rfl ?_
                refine v_iload_n dX8_labelsOf_84 rfl ?_
                refine v_icmp_leN (tgt := 93) dX8_labelsOf_85 (by decide) (by have := hnl (3 * a + b) (by omega); omega) (by omega) (fun b85 => ?_) (fun b85 => ?_)
                ·
                  have q3 : lbI σ r k a (lbO σ r k a) (b + 1) = lbI σ r k a (lbO σ r k a) b := by
                    simp only [lbI, lbS]
                    rw [if_pos b69, if_neg (Nat.not_lt.mpr b85)]
                  refine v_iload_n dX8_labelsOf_93 rfl ?_
                  refine v_istore_n dX8_labelsOf_94 (by decide) rfl ?_
                  refine v_goto (tgt := 136) dX8_labelsOf_95 (by decide) ?_
                  refine v_iincN dX8_labelsOf_136 (by decide) rfl rfl rfl ?_
                  refine v_goto (tgt := 15) dX8_labelsOf_139 (by decide) ?_
                  refine v_drop 6 ?_
                  refine v_drop 7 ?_
                  refine v_drop 8 ?_
                  refine v_eqL ?_ (ihb (by omega) (Or.inr b29))
                  rw [q3]
                  rfl
                ·
                  have q3 : lbI σ r k a (lbO σ r k a) (b + 1) = nwl σ (3 * a + b) := by
                    simp only [lbI, lbS]
                    rw [if_pos b69, if_pos (Nat.not_le.mp b85)]
                  refine v_iload dX8_labelsOf_88 rfl ?_
                  refine v_goto (tgt := 94) dX8_labelsOf_90 (by decide) ?_
                  refine v_istore_n dX8_labelsOf_94 (by decide) rfl ?_
                  refine v_goto (tgt := 136) dX8_labelsOf_95 (by decide) ?_
                  refine v_iincN dX8_labelsOf_136 (by decide) rfl rfl rfl ?_
                  refine v_goto (tgt := 15) dX8_labelsOf_139 (by decide) ?_
                  refine v_drop 6 ?_
                  refine v_drop 7 ?_
                  refine v_drop 8 ?_
                  refine v_eqL ?_ (ihb (by omega) (Or.inr b29))
                  rw [q3]
                  rfl
            ·
              have g1 : askB σ r b = true := by simp [askB, b47]
              refine v_iconst (v := nI 1) dX8_labelsOf_50 (by decide) ?_
              refine v_goto (tgt := 55) dX8_labelsOf_51 (by decide) ?_
              refine v_istore dX8_labelsOf_55 (by decide) rfl ?_
              refine v_aload_n dX8_labelsOf_57 rfl ?_
              refine v_iload dX8_labelsOf_58 rfl ?_
              refine v_iload dX8_labelsOf_60 rfl ?_
              refine u_rV2 oX8_isLabel dX8_labelsOf_62 ml_X8_75 (show Rd mX8_isLabel 1 _ w (some (.int (b2i (decide (0 < ln σ (3 * a + b)))))) from c_isLabel hM a b ⟨by omega, by omega⟩ (hl _ (by omega))) hM.1 (by decide) (Nat.le_of_ble_eq_true rfl) (Nat.le_refl _) (Nat.le_refl _) ?_
              refine v_istore dX8_labelsOf_65 (by decide) rfl ?_
              refine v_iload_n dX8_labelsOf_67 rfl ?_
              refine v_iconst (v := nI 3) dX8_labelsOf_68 (by decide) ?_
              refine v_icmp_neN (tgt := 98) dX8_labelsOf_69 (by decide) (by omega) (by omega) (fun b69 => ?_) (fun b69 => ?_)
              ·
                have JN : ∀ x, x = (if ((askB σ r b == !decide (k = 2)) && (decide (0 < ln σ (3 * a + b)) == !decide (k = 1))) = true then 1 else 0) → V mX8_labelsOf 2 0 0 (fun r' w' z => r' = some (.int (nI (lbO σ r k 8))) ∧ w' = w ∧ z = sz) (w) (sz) (0) (0) [some (.ref o), some (.int (nI r)), some (.int (nI k)), some (.int (nI (lbI σ r k a (lbO σ r k a) b))), some (.int (nI a)), some (.int (nI b)), none, none, none] [.int (nI x), .int (nI (lbI σ r k a (lbO σ r k a) b))] 134 := by
                  intro x hx
                  have hz29 : σ a = nI r := b29
                  have q3 : lbI σ r k a (lbO σ r k a) (b + 1) = lbI σ r k a (lbO σ r k a) b + x := by rw [hx]; simp only [lbI, lbS]; rw [if_neg b69]
                  refine v_iaddN dX8_labelsOf_134 ?_
                  refine v_istore_n dX8_labelsOf_135 (by decide) rfl ?_
                  refine v_iincN dX8_labelsOf_136 (by decide) rfl rfl rfl ?_
                  refine v_goto (tgt := 15) dX8_labelsOf_139 (by decide) ?_
                  refine v_eqL ?_ (ihb (by omega) (Or.inr hz29))
                  rw [q3]
                  rfl
                refine v_iload_n dX8_labelsOf_98 rfl ?_
                refine v_iload dX8_labelsOf_99 rfl ?_
                refine v_iload_n dX8_labelsOf_101 rfl ?_
                refine v_iconst (v := nI 2) dX8_labelsOf_102 (by decide) ?_
                refine v_icmp_eqN (tgt := 110) dX8_labelsOf_103 (by decide) (by omega) (by omega) (fun b103 => ?_) (fun b103 => ?_)
                ·
                  have g3 : decide (k = 2) = true := by simp [b103]
                  refine v_iconst (v := nI 0) dX8_labelsOf_110 (by decide) ?_
                  refine v_icmp_neN (tgt := 133) dX8_labelsOf_111 (by decide) (by decide) (by decide) (fun _ => ?_) (fun z => absurd z (by decide))
                  refine v_iconst (v := nI 0) dX8_labelsOf_133 (by decide) ?_
                  refine v_drop 6 ?_
                  refine v_drop 7 ?_
                  exact JN 0 (by rw [g1, g3]; simp)
                ·
                  have g3 : decide (k = 2) = false := by simp [b103]
                  refine v_iconst (v := nI 1) dX8_labelsOf_106 (by decide) ?_
                  refine v_goto (tgt := 111) dX8_labelsOf_107 (by decide) ?_
                  refine v_icmp_neN (tgt := 133) dX8_labelsOf_111 (by decide) (by decide) (by decide) (fun z => absurd z (by decide)) (fun _ => ?_)
                  refine v_iload dX8_labelsOf_114 rfl ?_
                  refine v_iload_n dX8_labelsOf_116 rfl ?_
                  refine v_iconst (v := nI 1) dX8_labelsOf_117 (by decide) ?_
                  refine v_icmp_eqN (tgt := 125) dX8_labelsOf_118 (by decide) (by omega) (by omega) (fun b118 => ?_) (fun b118 => ?_)
                  ·
                    have g4 : nI 0 = b2i (!decide (k = 1)) := by simp [b118, b2i]
                    refine v_iconst (v := nI 0) dX8_labelsOf_125 (by decide) ?_
                    refine v_icmp_ne (tgt := 133) dX8_labelsOf_126 (by decide) (fun b126 => ?_) (fun b126 => ?_)
                    ·
                      rw [g4] at b126
                      have g6 : (decide (0 < ln σ (3 * a + b)) == !decide (k = 1)) = false := by
                        cases h6 : (decide (0 < ln σ (3 * a + b)) == !decide (k = 1))
                        · rfl
                        · exact absurd (by rw [eq_of_beq h6]) b126
                      refine v_iconst (v := nI 0) dX8_labelsOf_133 (by decide) ?_
                      refine v_drop 6 ?_
                      refine v_drop 7 ?_
                      exact JN 0 (by rw [g6]; simp)
                    ·
                      rw [g4] at b126
                      have g6 : decide (0 < ln σ (3 * a + b)) = !decide (k = 1) := b2i_inj b126
                      refine v_iconst (v := nI 1) dX8_labelsOf_129 (by decide) ?_
                      refine v_goto (tgt := 134) dX8_labelsOf_130 (by decide) ?_
                      refine v_drop 6 ?_
                      refine v_drop 7 ?_
                      exact JN 1 (by rw [g6, g1, g3]; simp)
                  ·
                    have g4 : nI 1 = b2i (!decide (k = 1)) := by simp [b118, b2i]
                    refine v_iconst (v := nI 1) dX8_labelsOf_121 (by decide) ?_
                    refine v_goto (tgt := 126) dX8_labelsOf_122 (by decide) ?_
                    refine v_icmp_ne (tgt := 133) dX8_labelsOf_126 (by decide) (fun b126 => ?_) (fun b126 => ?_)
                    ·
                      rw [g4] at b126
                      have g6 : (decide (0 < ln σ (3 * a + b)) == !decide (k = 1)) = false := by
                        cases h6 : (decide (0 < ln σ (3 * a + b)) == !decide (k = 1))
                        · rfl
                        · exact absurd (by rw [eq_of_beq h6]) b126
                      refine v_iconst (v := nI 0) dX8_labelsOf_133 (by decide) ?_
                      refine v_drop 6 ?_
                      refine v_drop 7 ?_
                      exact JN 0 (by rw [g6]; simp)
                    ·
                      rw [g4] at b126
                      have g6 : decide (0 < ln σ (3 * a + b)) = !decide (k = 1) := b2i_inj b126
                      refine v_iconst (v := nI 1) dX8_labelsOf_129 (by decide) ?_
                      refine v_goto (tgt := 134) dX8_labelsOf_130 (by decide) ?_
                      refine v_drop 6 ?_
                      refine v_drop 7 ?_
                      exact JN 1 (by rw [g6, g1, g3]; simp)
              ·
                refine v_aload_n dX8_labelsOf_72 rfl ?_
                refine v_iload dX8_labelsOf_73 rfl ?_
                refine v_iload dX8_labelsOf_75 rfl ?_
                refine u_rV2 oX8_wordsOf dX8_labelsOf_77 ml_X8_42 (show Rd mX8_wordsOf 1 _ w (some (.int (nI (nwl σ (3 * a + b))))) from c_wordsOf hM a b ⟨by omega, by omega⟩ (hl _ (by omega))) hM.1 (by decide) (Nat.le_of_ble_eq_true rfl) (Nat.le_refl _) (Nat.le_refl _) ?_
                refine v_istore dX8_labelsOf_80 (by decide) rfl ?_
                refine v_iload dX8_labelsOf_82 rfl ?_
                refine v_iload_n dX8_labelsOf_84 rfl ?_
                refine v_icmp_leN (tgt := 93) dX8_labelsOf_85 (by decide) (by have := hnl (3 * a + b) (by omega); omega) (by omega) (fun b85 => ?_) (fun b85 => ?_)
                ·
                  have q3 : lbI σ r k a (lbO σ r k a) (b + 1) = lbI σ r k a (lbO σ r k a) b := by
                    simp only [lbI, lbS]
                    rw [if_pos b69, if_neg (Nat.not_lt.mpr b85)]
                  refine v_iload_n dX8_labelsOf_93 rfl ?_
                  refine v_istore_n dX8_labelsOf_94 (by decide) rfl ?_
                  refine v_goto (tgt := 136) dX8_labelsOf_95 (by decide) ?_
                  refine v_iincN dX8_labelsOf_136 (by decide) rfl rfl rfl ?_
                  refine v_goto (tgt := 15) dX8_labelsOf_139 (by decide) ?_
                  refine v_drop 6 ?_
                  refine v_drop 7 ?_
                  refine v_drop 8 ?_
                  refine v_eqL ?_ (ihb (by omega) (Or.inr b29))
                  rw [q3]
                  rfl
                ·
                  have q3 : lbI σ r k a (lbO σ r k a) (b + 1) = nwl σ (3 * a + b) := by
                    simp only [lbI, lbS]
                    rw [if_pos b69, if_pos (Nat.not_le.mp b85)]
                  refine v_iload dX8_labelsOf_88 rfl ?_
                  refine v_goto (tgt := 94) dX8_labelsOf_90 (by decide) ?_
                  refine v_istore_n dX8_labelsOf_94 (by decide) rfl ?_
                  refine v_goto (tgt := 136) dX8_labelsOf_95 (by decide) ?_
                  refine v_iincN dX8_labelsOf_136 (by decide) rfl rfl rfl ?_
                  refine v_goto (tgt := 15) dX8_labelsOf_139 (by decide) ?_
                  refine v_drop 6 ?_
                  refine v_drop 7 ?_
                  refine v_drop 8 ?_
                  refine v_eqL ?_ (ihb (by omega) (Or.inr b29))
                  rw [q3]
                  rfl
      exact LP15 0 (Nat.zero_le _) (Or.inl rfl)
  exact LP5 0 (Nat.zero_le _)
