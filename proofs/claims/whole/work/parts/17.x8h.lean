theorem nI_lt0_of {x : Int32} (h : ¬ (0 : Int32) ≤ x) : x < 0 := Int32.not_le.mp h
def rankedI (σ : Nat → Int32) (x y z : Int32) : Int32 := if (inB x 7 && inB y 2) = true then (if z < 0 then -2 else rkI σ (3 * nt x + nt y) z) else -1
/-- a row of the table of the most words in common: from the row before -/
def rst (e : Nat → Bool) (pv : Nat → Nat) : Nat → Nat
  | 0 => 0
  | j + 1 => if e j = true then pv j + 1 else if rst e pv j < pv (j + 1) then pv (j + 1) else rst e pv j
def lcr (e : Nat → Nat → Bool) : Nat → Nat → Nat
  | 0 => fun _ => 0
  | i + 1 => rst (e i) (lcr e i)
theorem rst_le {e : Nat → Bool} {pv : Nat → Nat} {b : Nat} (h : ∀ j, pv j ≤ b) : ∀ j, rst e pv j ≤ b + 1
  | 0 => by simp [rst]
  | j + 1 => by
    have h1 := rst_le (e := e) h j
    have h2 := h j
    have h3 := h (j + 1)
    simp only [rst]
    split
    · omega
    · split <;> omega
theorem lcr_le {e : Nat → Nat → Bool} : ∀ i j, lcr e i j ≤ i
  | 0, j => by simp [lcr]
  | i + 1, j => rst_le (e := e i) (fun j => lcr_le i j) j
set_option maxHeartbeats 4000000 in
set_option maxRecDepth 100000 in
theorem c_rankedN {w : Wd} {o ns tn : Nat} {kp : Int32} {σ tx cm : Nat → Int32} (hM : MW w o ns tn kp σ tx cm) (a b : Nat) (z : Int32) (h : a < 8 ∧ b < 3) (hz : 0 ≤ z) : Rd mX8_ranked 2 [.ref o, .int (nI a), .int (nI b), .int z] w (some (.int (rkI σ (3 * a + b) z))) := by
  intro sz
  refine Ev.ofV [some (.ref o), some (.int (nI a)), some (.int (nI b)), some (.int z), none, none, none, none, none, none] (by decide) (Nat.le_of_ble_eq_true rfl) rfl rfl rfl ?_
  have hpr : (inB (nI a) 7 && inB (nI b) 2) = true := by rw [inB_nI (by omega) (by omega), inB_nI (by omega) (by omega)]; simp; omega
  have hfl := fst_le (rkB σ (3 * a + b) z) 16
  refine v_iload_n dX8_ranked_0 rfl ?_
  refine v_iload_n dX8_ranked_1 rfl ?_
  refine u_rS2 oX8_isPair dX8_ranked_2 ml_X8_72 (c_isPair (nI a) (nI b)) (by decide) (Nat.le_of_ble_eq_true rfl) (Nat.le_refl _) (Nat.le_refl _) ?_
  refine v_if_neB (tgt := 10) dX8_ranked_5 (by decide) (fun b5 => ?_) (fun b5 => ?_)
  ·
    refine v_iload_n dX8_ranked_10 rfl ?_
    refine v_if_ge (tgt := 17) dX8_ranked_11 (by decide) (fun b11 => ?_) (fun b11 => ?_)
    ·
      refine v_iconst (v := nI 0) dX8_ranked_17 (by decide) ?_
      refine v_istore dX8_ranked_18 (by decide) rfl ?_
      have LP20 : ∀ k, k ≤ fst (rkB σ (3 * a + b) z) 16 → V mX8_ranked 2 0 0 (fun r' w' zz => r' = some (.int (rkI σ (3 * a + b) z)) ∧ w' = w ∧ zz = sz) (w) (sz) (0) (0) [some (.ref o), some (.int (nI a)), some (.int (nI b)), some (.int z), some (.int (nI k)), none, none, none, none, none] [] 20 := by
        refine dn (fun k hk ihk => ?_)
        refine v_iload dX8_ranked_20 rfl ?_
        refine v_bipush (v := nI 16) dX8_ranked_22 (by decide) ?_
        refine v_icmp_geN (tgt := 200) dX8_ranked_24 (by decide) (by omega) (by omega) (fun b24 => ?_) (fun b24 => ?_)
        ·
          refine v_bipush (v := -5) dX8_ranked_200 (by decide) ?_
          refine v_iret dX8_ranked_202 rfl (Nat.le_refl _) (Nat.le_refl _) ?_
          exact ⟨by unfold rkI; rw [if_neg (by omega)], rfl, rfl⟩
        ·
          refine v_iload dX8_ranked_27 rfl ?_
          refine u_rS1 oX8_paper dX8_ranked_29 ml_X8_49 (c_paper k) (by decide) (Nat.le_of_ble_eq_true rfl) (Nat.le_refl _) (Nat.le_refl _) ?_
          refine v_istore dX8_ranked_32 (by decide) rfl ?_
          refine v_aload_n dX8_ranked_34 rfl ?_
          refine v_get 0 dX8_ranked_35 FTX8 (by decide) rfl fl_X8_7 hM.1 rfl ?_
          refine v_iload dX8_ranked_38 rfl ?_
          refine v_iald _ dX8_ranked_40 hM.2.1 rfl (by omega) (by decide) ?_
          refine v_if_lt (tgt := 194) dX8_ranked_41 (by decide) (fun b41 => ?_) (fun b41 => ?_)
          ·
            have q5 : rkB σ (3 * a + b) z k = false := by simp [rkB, cand, Int32.not_le.mpr b41]
            have q6 : k < fst (rkB σ (3 * a + b) z) 16 := by
              rcases Nat.lt_or_ge k (fst (rkB σ (3 * a + b) z) 16) with h1 | h1
              · exact h1
              · have h2 := fst_yes (rkB σ (3 * a + b) z) 16 (by omega)
                rw [show fst (rkB σ (3 * a + b) z) 16 = k by omega, q5] at h2
                cases h2
            refine v_iincN dX8_ranked_194 (by decide) rfl rfl rfl ?_
            refine v_goto (tgt := 20) dX8_ranked_197 (by decide) ?_
            refine v_drop 5 ?_
            refine v_drop 6 ?_
            refine v_drop 7 ?_
            refine v_drop 8 ?_
            refine v_drop 9 ?_
            exact ihk q6
          ·
            have q1 : (0 : Int32) ≤ σ (1808 + 65 * k) := Int32.not_lt.mp b41
            refine v_aload_n dX8_ranked_44 rfl ?_
            refine v_get 0 dX8_ranked_45 FTX8 (by decide) rfl fl_X8_7 hM.1 rfl ?_
            refine v_iload dX8_ranked_48 rfl ?_
            refine v_iconst (v := nI 1) dX8_ranked_50 (by decide) ?_
            refine v_iaddN dX8_ranked_51 ?_
            refine v_iald _ dX8_ranked_52 hM.2.1 rfl (by omega) (by decide) ?_
            refine v_iconst (v := nI 3) dX8_ranked_53 (by decide) ?_
            refine v_iload_n dX8_ranked_54 rfl ?_
            refine v_imulN dX8_ranked_55 ?_
            refine v_iload_n dX8_ranked_56 rfl ?_
            refine v_iaddN dX8_ranked_57 ?_
            refine v_icmp_ne (tgt := 194) dX8_ranked_58 (by decide) (fun b58 => ?_) (fun b58 => ?_)
            ·
              have q5 : rkB σ (3 * a + b) z k = false := by simp [rkB, cand, b58]
              have q6 : k < fst (rkB σ (3 * a + b) z) 16 := by
                rcases Nat.lt_or_ge k (fst (rkB σ (3 * a + b) z) 16) with h1 | h1
                · exact h1
                · have h2 := fst_yes (rkB σ (3 * a + b) z) 16 (by omega)
                  rw [show fst (rkB σ (3 * a + b) z) 16 = k by omega, q5] at h2
                  cases h2
              refine v_iincN dX8_ranked_194 (by decide) rfl rfl rfl ?_
              refine v_goto (tgt := 20) dX8_ranked_197 (by decide) ?_
              refine v_drop 5 ?_
              refine v_drop 6 ?_
              refine v_drop 7 ?_
              refine v_drop 8 ?_
              refine v_drop 9 ?_
              exact ihk q6
            ·
              refine v_iconst (v := nI 0) dX8_ranked_61 (by decide) ?_
              refine v_istore dX8_ranked_62 (by decide) rfl ?_
              refine v_iconst (v := nI 0) dX8_ranked_64 (by decide) ?_
              refine v_istore dX8_ranked_65 (by decide) rfl ?_
              have LP67 : ∀ j, j ≤ 16 → V mX8_ranked 2 0 0 (fun r' w' zz => r' = some (.int (rkI σ (3 * a + b) z)) ∧ w' = w ∧ zz = sz) (w) (sz) (0) (0) [some (.ref o), some (.int (nI a)), some (.int (nI b)), some (.int z), some (.int (nI k)), some (.int (nI (1808 + 65 * k))), some (.int (nI (cnt (ahd σ k) j))), some (.int (nI j)), none, none] [] 67 := by
                refine dn (fun j hj ihj => ?_)
                refine v_iload dX8_ranked_67 rfl ?_
                refine v_bipush (v := nI 16) dX8_ranked_69 (by decide) ?_
                refine v_icmp_geN (tgt := 180) dX8_ranked_71 (by decide) (by omega) (by omega) (fun b71 => ?_) (fun b71 => ?_)
                ·
                  have e3 : j = 16 := by omega
                  subst e3
                  refine v_iload dX8_ranked_180 rfl ?_
                  refine v_iload_n dX8_ranked_182 rfl ?_
                  refine v_icmp_ne (tgt := 194) dX8_ranked_183 (by decide) (fun b183 => ?_) (fun b183 => ?_)
                  ·
                    have q5 : rkB σ (3 * a + b) z k = false := by simp [rkB, b183]
                    have q6 : k < fst (rkB σ (3 * a + b) z) 16 := by
                      rcases Nat.lt_or_ge k (fst (rkB σ (3 * a + b) z) 16) with h1 | h1
                      · exact h1
                      · have h2 := fst_yes (rkB σ (3 * a + b) z) 16 (by omega)
                        rw [show fst (rkB σ (3 * a + b) z) 16 = k by omega, q5] at h2
                        cases h2
                    refine v_iincN dX8_ranked_194 (by decide) rfl rfl rfl ?_
                    refine v_goto (tgt := 20) dX8_ranked_197 (by decide) ?_
                    refine v_drop 5 ?_
                    refine v_drop 6 ?_
                    refine v_drop 7 ?_
                    refine v_drop 8 ?_
                    refine v_drop 9 ?_
                    exact ihk q6
                  ·
                    have q6 : fst (rkB σ (3 * a + b) z) 16 = k := by
                      rcases Nat.lt_or_ge k (fst (rkB σ (3 * a + b) z) 16) with h1 | h1
                      · have h2 := fst_no _ _ _ h1
                        simp [rkB, cand, q1, b58, b183] at h2
                      · omega
                    refine v_aload_n dX8_ranked_186 rfl ?_
                    refine v_get 0 dX8_ranked_187 FTX8 (by decide) rfl fl_X8_7 hM.1 rfl ?_
                    refine v_iload dX8_ranked_190 rfl ?_
                    refine v_iald _ dX8_ranked_192 hM.2.1 rfl (by omega) (by decide) ?_
                    refine v_iret dX8_ranked_193 rfl (Nat.le_refl _) (Nat.le_refl _) ?_
                    exact ⟨by unfold rkI; rw [q6, if_pos (by omega)], rfl, rfl⟩
                ·
                  refine v_iload dX8_ranked_74 rfl ?_
                  refine u_rS1 oX8_paper dX8_ranked_76 ml_X8_49 (c_paper j) (by decide) (Nat.le_of_ble_eq_true rfl) (Nat.le_refl _) (Nat.le_refl _) ?_
                  refine v_istore dX8_ranked_79 (by decide) rfl ?_
                  refine v_aload_n dX8_ranked_81 rfl ?_
                  refine v_aload_n dX8_ranked_82 rfl ?_
                  refine v_get 0 dX8_ranked_83 FTX8 (by decide) rfl fl_X8_7 hM.1 rfl ?_
                  refine v_iload dX8_ranked_86 rfl ?_
                  refine v_iald _ dX8_ranked_88 hM.2.1 rfl (by omega) (by decide) ?_
                  refine u_rV1 oX8_votesFor dX8_ranked_89 ml_X8_53 (show Rd mX8_votesFor 0 _ w (some (.int (nI (vfk σ j)))) from c_votesFor hM _) hM.1 (by decide) (Nat.le_of_ble_eq_true rfl) (Nat.le_refl _) (Nat.le_refl _) ?_
                  refine v_aload_n dX8_ranked_92 rfl ?_
                  refine v_aload_n dX8_ranked_93 rfl ?_
                  refine v_get 0 dX8_ranked_94 FTX8 (by decide) rfl fl_X8_7 hM.1 rfl ?_
                  refine v_iload dX8_ranked_97 rfl ?_
                  refine v_iald _ dX8_ranked_99 hM.2.1 rfl (by omega) (by decide) ?_
                  refine u_rV1 oX8_votesFor dX8_ranked_100 ml_X8_53 (show Rd mX8_votesFor 0 _ w (some (.int (nI (vfk σ k)))) from c_votesFor hM _) hM.1 (by decide) (Nat.le_of_ble_eq_true rfl) (Nat.le_refl _) (Nat.le_refl _) ?_
                  refine v_isub dX8_ranked_103 ?_
                  refine v_istore dX8_ranked_104 (by decide) rfl ?_
                  refine v_iload dX8_ranked_106 rfl ?_
                  refine v_aload_n dX8_ranked_108 rfl ?_
                  refine v_get 0 dX8_ranked_109 FTX8 (by decide) rfl fl_X8_7 hM.1 rfl ?_
                  refine v_iload dX8_ranked_112 rfl ?_
                  refine v_iald _ dX8_ranked_114 hM.2.1 rfl (by omega) (by decide) ?_
                  refine v_if_lt (tgt := 170) dX8_ranked_115 (by decide) (fun b115 => ?_) (fun b115 => ?_)
                  ·
                    have q := cn0 (p := ahd σ k) (i := j) (by simp [ahd, Int32.not_le.mpr b115])
                    refine v_iconst (v := nI 0) dX8_ranked_170 (by decide) ?_
                    refine v_iaddN dX8_ranked_171 ?_
                    refine v_istore dX8_ranked_172 (by decide) rfl ?_
                    refine v_iincN dX8_ranked_174 (by decide) rfl rfl rfl ?_
                    refine v_goto (tgt := 67) dX8_ranked_177 (by decide) ?_
                    refine v_drop 8 ?_
                    refine v_drop 9 ?_
                    refine v_eqL ?_ (ihj (by omega))
                    rw [← q]
                    rfl
                  ·
                    have q2 : (0 : Int32) ≤ σ (1808 + 65 * j) := Int32.not_lt.mp b115
                    refine v_aload_n dX8_ranked_118 rfl ?_
                    refine v_get 0 dX8_ranked_119 FTX8 (by decide) rfl fl_X8_7 hM.1 rfl ?_
                    refine v_iload dX8_ranked_122 rfl ?_
                    refine v_iconst (v := nI 1) dX8_ranked_124 (by decide) ?_
                    refine v_iaddN dX8_ranked_125 ?_
                    refine v_iald _ dX8_ranked_126 hM.2.1 rfl (by omega) (by decide) ?_
                    refine v_aload_n dX8_ranked_127 rfl ?_
                    refine v_get 0 dX8_ranked_128 FTX8 (by decide) rfl fl_X8_7 hM.1 rfl ?_
                    refine v_iload dX8_ranked_131 rfl ?_
                    refine v_iconst (v := nI 1) dX8_ranked_133 (by decide) ?_
                    refine v_iaddN dX8_ranked_134 ?_
                    refine v_iald _ dX8_ranked_135 hM.2.1 rfl (by omega) (by decide) ?_
                    refine v_icmp_ne (tgt := 170) dX8_ranked_136 (by decide) (fun b136 => ?_) (fun b136 => ?_)
                    ·
                      have q := cn0 (p := ahd σ k) (i := j) (by simp [ahd, b136])
                      refine v_iconst (v := nI 0) dX8_ranked_170 (by decide) ?_
                      refine v_iaddN dX8_ranked_171 ?_
                      refine v_istore dX8_ranked_172 (by decide) rfl ?_
                      refine v_iincN dX8_ranked_174 (by decide) rfl rfl rfl ?_
                      refine v_goto (tgt := 67) dX8_ranked_177 (by decide) ?_
                      refine v_drop 8 ?_
                      refine v_drop 9 ?_
                      refine v_eqL ?_ (ihj (by omega))
                      rw [← q]
                      rfl
                    ·
                      have v1 := vfk_le σ j
                      have v2 := vfk_le σ k
                      refine v_iload dX8_ranked_139 rfl ?_
                      refine v_if_gt (tgt := 166) dX8_ranked_141 (by decide) (fun b141 => ?_) (fun b141 => ?_)
                      ·
                        have c1 := (nI_sub_pos (by omega) (by omega)).mp b141
                        have q := cn1 (p := ahd σ k) (i := j) (by simp [ahd, q2, b136, c1])
                        refine v_iconst (v := nI 1) dX8_ranked_166 (by decide) ?_
                        refine v_goto (tgt := 171) dX8_ranked_167 (by decide) ?_
                        refine v_iaddN dX8_ranked_171 ?_
                        refine v_istore dX8_ranked_172 (by decide) rfl ?_
                        refine v_iincN dX8_ranked_174 (by decide) rfl rfl rfl ?_
                        refine v_goto (tgt := 67) dX8_ranked_177 (by decide) ?_
                        refine v_drop 8 ?_
                        refine v_drop 9 ?_
                        refine v_eqL ?_ (ihj (by omega))
                        rw [← q]
                        rfl
                      ·
                        have c1 := mt (nI_sub_pos (a := vfk σ j) (b := vfk σ k) (by omega) (by omega)).mpr b141
                        refine v_iload dX8_ranked_144 rfl ?_
                        refine v_if_ne (tgt := 170) dX8_ranked_146 (by decide) (fun b146 => ?_) (fun b146 => ?_)
                        ·
                          have c2 := mt (nI_sub_0 (a := vfk σ j) (b := vfk σ k) (by omega) (by omega)).mpr b146
                          have q := cn0 (p := ahd σ k) (i := j) (by simp [ahd, c1, c2])
                          refine v_iconst (v := nI 0) dX8_ranked_170 (by decide) ?_
                          refine v_iaddN dX8_ranked_171 ?_
                          refine v_istore dX8_ranked_172 (by decide) rfl ?_
                          refine v_iincN dX8_ranked_174 (by decide) rfl rfl rfl ?_
                          refine v_goto (tgt := 67) dX8_ranked_177 (by decide) ?_
                          refine v_drop 8 ?_
                          refine v_drop 9 ?_
                          refine v_eqL ?_ (ihj (by omega))
                          rw [← q]
                          rfl
                        ·
                          have c2 := (nI_sub_0 (by omega) (by omega)).mp b146
                          refine v_aload_n dX8_ranked_149 rfl ?_
                          refine v_get 0 dX8_ranked_150 FTX8 (by decide) rfl fl_X8_7 hM.1 rfl ?_
                          refine v_iload dX8_ranked_153 rfl ?_
                          refine v_iald _ dX8_ranked_155 hM.2.1 rfl (by omega) (by decide) ?_
                          refine v_aload_n dX8_ranked_156 rfl ?_
                          refine v_get 0 dX8_ranked_157 FTX8 (by decide) rfl fl_X8_7 hM.1 rfl ?_
                          refine v_iload dX8_ranked_160 rfl ?_
                          refine v_iald _ dX8_ranked_162 hM.2.1 rfl (by omega) (by decide) ?_
                          refine v_icmp_ge (tgt := 170) dX8_ranked_163 (by decide) (fun b163 => ?_) (fun b163 => ?_)
                          ·
                            have c5 : ¬ σ (1808 + 65 * j) < σ (1808 + 65 * k) := Int32.not_lt.mpr b163
                            have q := cn0 (p := ahd σ k) (i := j) (by simp [ahd, c1, c5])
                            refine v_iconst (v := nI 0) dX8_ranked_170 (by decide) ?_
                            refine v_iaddN dX8_ranked_171 ?_
                            refine v_istore dX8_ranked_172 (by decide) rfl ?_
                            refine v_iincN dX8_ranked_174 (by decide) rfl rfl rfl ?_
                            refine v_goto (tgt := 67) dX8_ranked_177 (by decide) ?_
                            refine v_drop 8 ?_
                            refine v_drop 9 ?_
                            refine v_eqL ?_ (ihj (by omega))
                            rw [← q]
                            rfl
                          ·
                            have c5 : σ (1808 + 65 * j) < σ (1808 + 65 * k) := Int32.not_le.mp b163
                            have q := cn1 (p := ahd σ k) (i := j) (by simp [ahd, q2, b136, c2, c5])
                            refine v_iconst (v := nI 1) dX8_ranked_166 (by decide) ?_
                            refine v_goto (tgt := 171) dX8_ranked_167 (by decide) ?_
                            refine v_iaddN dX8_ranked_171 ?_
                            refine v_istore dX8_ranked_172 (by decide) rfl ?_
                            refine v_iincN dX8_ranked_174 (by decide) rfl rfl rfl ?_
                            refine v_goto (tgt := 67) dX8_ranked_177 (by decide) ?_
                            refine v_drop 8 ?_
                            refine v_drop 9 ?_
                            refine v_eqL ?_ (ihj (by omega))
                            rw [← q]
                            rfl
              exact LP67 0 (Nat.zero_le _)
      exact LP20 0 (Nat.zero_le _)
    ·
      exact absurd hz b11
  ·
    exact absurd hpr (by rw [b5]; decide)
set_option maxHeartbeats 4000000 in
set_option maxRecDepth 100000 in
theorem c_ranked0 {w : Wd} {o ns tn : Nat} {kp : Int32} {σ tx cm : Nat → Int32} (hM : MW w o ns tn kp σ tx cm) (x y z : Int32) (h : (inB x 7 && inB y 2) = false ∨ z < 0) : Rd mX8_ranked 2 [.ref o, .int x, .int y, .int z] w (some (.int (rankedI σ x y z))) := by
  intro sz
  refine Ev.ofV [some (.ref o), some (.int x), some (.int y), some (.int z), none, none, none, none, none, none] (by decide) (Nat.le_of_ble_eq_true rfl) rfl rfl rfl ?_
  refine v_iload_n dX8_ranked_0 rfl ?_
  refine v_iload_n dX8_ranked_1 rfl ?_
  refine u_rS2 oX8_isPair dX8_ranked_2 ml_X8_72 (c_isPair x y) (by decide) (Nat.le_of_ble_eq_true rfl) (Nat.le_refl _) (Nat.le_refl _) ?_
  refine v_if_neB (tgt := 10) dX8_ranked_5 (by decide) (fun b5 => ?_) (fun b5 => ?_)
  ·
    refine v_iload_n dX8_ranked_10 rfl ?_
    refine v_if_ge (tgt := 17) dX8_ranked_11 (by decide) (fun b11 => ?_) (fun b11 => ?_)
    ·
      exact absurd b11 (Int32.not_le.mpr (by rcases h with h | h; exact absurd h (by rw [b5]; decide); exact h))
    ·
      refine v_bipush (v := -2) dX8_ranked_14 (by decide) ?_
      refine v_iret dX8_ranked_16 rfl (Nat.le_refl _) (Nat.le_refl _) ?_
      exact ⟨by unfold rankedI; rw [if_pos b5, if_pos (Int32.not_le.mp b11)], rfl, rfl⟩
  ·
    refine v_iconst (v := -1) dX8_ranked_8 (by decide) ?_
    refine v_iret dX8_ranked_9 rfl (Nat.le_refl _) (Nat.le_refl _) ?_
    exact ⟨by unfold rankedI; rw [if_neg (by rw [b5]; decide)], rfl, rfl⟩
theorem c_ranked {w : Wd} {o ns tn : Nat} {kp : Int32} {σ tx cm : Nat → Int32} (hM : MW w o ns tn kp σ tx cm) (x y z : Int32) : Rd mX8_ranked 2 [.ref o, .int x, .int y, .int z] w (some (.int (rankedI σ x y z))) := by
  by_cases h : (inB x 7 && inB y 2) = false ∨ z < 0
  · exact c_ranked0 hM x y z h
  · have h1 : (inB x 7 && inB y 2) = true := by
      cases e : (inB x 7 && inB y 2)
      · exact absurd (Or.inl e) h
      · rfl
    have h2 : ¬ z < 0 := fun e => h (Or.inr e)
    have h3 := h1
    simp only [Bool.and_eq_true] at h3
    have hx := inB_ub (by omega) h3.1
    have hy := inB_ub (by omega) h3.2
    have c := c_rankedN hM (nt x) (nt y) z ⟨hx.2, hy.2⟩ (Int32.not_lt.mp h2)
    rw [← hx.1, ← hy.1] at c
    unfold rankedI
    rw [if_pos h1, if_neg h2]
    exact c
