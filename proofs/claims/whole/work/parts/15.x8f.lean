set_option maxHeartbeats 4000000 in
set_option maxRecDepth 100000 in
theorem c_best {w : Wd} {o ns tn : Nat} {kp : Int32} {σ tx cm : Nat → Int32} (hM : MW w o ns tn kp σ tx cm) (a b : Nat) (h : a < 8 ∧ b < 3) (hr : ub (σ a) 4) (hm : ub (σ (12 + nt (σ a))) 16 ∧ 1 ≤ nt (σ (12 + nt (σ a)))) (hn : ub (σ 16) 10) (hw : ∀ k, k < 16 → 0 ≤ σ (1808 + 65 * k) → ub (σ (1808 + 65 * k + 4)) 61) : Rd mX8_best 2 [.ref o, .int (nI a), .int (nI b)] w (some (.int (oI (bst σ (3 * a + b) (nt (σ 16)) (nt (σ (12 + nt (σ a)))) (16))))) := by
  intro sz
  refine Ev.ofV [some (.ref o), some (.int (nI a)), some (.int (nI b)), none, none, none, none, none, none, none, none, none] (by decide) (Nat.le_of_ble_eq_true rfl) rfl rfl rfl ?_
  refine v_iconst (v := -1) dX8_best_0 (by decide) ?_
  refine v_istore_n dX8_best_1 (by decide) rfl ?_
  refine v_iconst (v := nI 0) dX8_best_2 (by decide) ?_
  refine v_istore dX8_best_3 (by decide) rfl ?_
  have LP5 : ∀ i, i ≤ 16 → V mX8_best 2 0 0 (fun r' w' z => r' = some (.int (oI (bst σ (3 * a + b) (nt (σ 16)) (nt (σ (12 + nt (σ a)))) (16)))) ∧ w' = w ∧ z = sz) (w) (sz) (0) (0) [some (.ref o), some (.int (nI a)), some (.int (nI b)), some (.int (oI (bst σ (3 * a + b) (nt (σ 16)) (nt (σ (12 + nt (σ a)))) (i)))), some (.int (nI i)), none, none, none, none, none, none, none] [] 5 := by
    refine dn (fun i hi ih => ?_)
    refine v_iload dX8_best_5 rfl ?_
    refine v_bipush (v := nI 16) dX8_best_7 (by decide) ?_
    refine v_icmp_geN (tgt := 231) dX8_best_9 (by decide) (by omega) (by omega) (fun b9 => ?_) (fun b9 => ?_)
    ·
      refine v_iload_n dX8_best_231 rfl ?_
      refine v_iret dX8_best_232 rfl (Nat.le_refl _) (Nat.le_refl _) ?_
      have ei : i = 16 := by omega
      subst ei
      exact ⟨rfl, rfl, rfl⟩
    ·
      have hi16 : i < 16 := by omega
      refine v_iload dX8_best_12 rfl ?_
      refine u_rS1 oX8_paper dX8_best_14 ml_X8_49 (c_paper i) (by decide) (Nat.le_of_ble_eq_true rfl) (Nat.le_refl _) (Nat.le_refl _) ?_
      refine v_istore dX8_best_17 (by decide) rfl ?_
      refine v_aload_n dX8_best_19 rfl ?_
      refine v_get 0 dX8_best_20 FTX8 (by decide) rfl fl_X8_7 hM.1 rfl ?_
      refine v_iload dX8_best_23 rfl ?_
      refine v_iald _ dX8_best_25 hM.2.1 rfl (by omega) (by decide) ?_
      refine v_if_lt (tgt := 225) dX8_best_26 (by decide) (fun b26 => ?_) (fun b26 => ?_)
      ·
        have q : oI (bst σ (3 * a + b) (nt (σ 16)) (nt (σ (12 + nt (σ a)))) (i + 1)) = oI (bst σ (3 * a + b) (nt (σ 16)) (nt (σ (12 + nt (σ a)))) (i)) := by simp [bst, bsS, cand, Int32.not_le.mpr b26]
        refine v_iincN dX8_best_225 (by decide) rfl rfl rfl ?_
        refine v_goto (tgt := 5) dX8_best_228 (by decide) ?_
        refine v_drop 5 ?_
        refine v_drop 6 ?_
        refine v_drop 7 ?_
        refine v_drop 8 ?_
        refine v_drop 9 ?_
        refine v_drop 10 ?_
        refine v_drop 11 ?_
        refine v_eqL ?_ (ih (by omega))
        rw [q]
        rfl
      ·
        have q1 : (0 : Int32) ≤ σ (1808 + 65 * i) := Int32.not_lt.mp b26
        refine v_aload_n dX8_best_29 rfl ?_
        refine v_get 0 dX8_best_30 FTX8 (by decide) rfl fl_X8_7 hM.1 rfl ?_
        refine v_iload dX8_best_33 rfl ?_
        refine v_iconst (v := nI 1) dX8_best_35 (by decide) ?_
        refine v_iaddN dX8_best_36 ?_
        refine v_iald _ dX8_best_37 hM.2.1 rfl (by omega) (by decide) ?_
        refine v_iconst (v := nI 3) dX8_best_38 (by decide) ?_
        refine v_iload_n dX8_best_39 rfl ?_
        refine v_imulN dX8_best_40 ?_
        refine v_iload_n dX8_best_41 rfl ?_
        refine v_iaddN dX8_best_42 ?_
        refine v_icmp_ne (tgt := 225) dX8_best_43 (by decide) (fun b43 => ?_) (fun b43 => ?_)
        ·
          have q : oI (bst σ (3 * a + b) (nt (σ 16)) (nt (σ (12 + nt (σ a)))) (i + 1)) = oI (bst σ (3 * a + b) (nt (σ 16)) (nt (σ (12 + nt (σ a)))) (i)) := by simp [bst, bsS, cand, b43]
          refine v_iincN dX8_best_225 (by decide) rfl rfl rfl ?_
          refine v_goto (tgt := 5) dX8_best_228 (by decide) ?_
          refine v_drop 5 ?_
          refine v_drop 6 ?_
          refine v_drop 7 ?_
          refine v_drop 8 ?_
          refine v_drop 9 ?_
          refine v_drop 10 ?_
          refine v_drop 11 ?_
          refine v_eqL ?_ (ih (by omega))
          rw [q]
          rfl
        ·
          refine v_aload_n dX8_best_46 rfl ?_
          refine v_aload_n dX8_best_47 rfl ?_
          refine v_get 0 dX8_best_48 FTX8 (by decide) rfl fl_X8_7 hM.1 rfl ?_
          refine v_iload dX8_best_51 rfl ?_
          refine v_iald _ dX8_best_53 hM.2.1 rfl (by omega) (by decide) ?_
          refine u_rV1 oX8_votesFor dX8_best_54 ml_X8_53 (show Rd mX8_votesFor 0 _ w (some (.int (nI (vfk σ i)))) from c_votesFor hM _) hM.1 (by decide) (Nat.le_of_ble_eq_true rfl) (Nat.le_refl _) (Nat.le_refl _) ?_
          refine v_istore dX8_best_57 (by decide) rfl ?_
          refine v_aload_n dX8_best_59 rfl ?_
          refine v_iload dX8_best_60 rfl ?_
          refine v_iconst (v := nI 5) dX8_best_62 (by decide) ?_
          refine v_iaddN dX8_best_63 ?_
          refine v_aload_n dX8_best_64 rfl ?_
          refine v_get 0 dX8_best_65 FTX8 (by decide) rfl fl_X8_7 hM.1 rfl ?_
          refine v_iload dX8_best_68 rfl ?_
          refine v_iconst (v := nI 4) dX8_best_70 (by decide) ?_
          refine v_iaddN dX8_best_71 ?_
          refine v_ialdN _ dX8_best_72 hM.2.1 rfl (by omega) (by decide) (hw i (by omega) q1).1 ?_
          refine u_rV2 oX8_words dX8_best_73 ml_X8_32 (show Rd mX8_words 0 _ w (some (.int (nI (nwr σ i)))) from c_words hM _ _ (by have := (hw i (by omega) q1).2; omega)) hM.1 (by decide) (Nat.le_of_ble_eq_true rfl) (Nat.le_refl _) (Nat.le_refl _) ?_
          refine v_istore dX8_best_76 (by decide) rfl ?_
          refine v_iload dX8_best_78 rfl ?_
          refine v_aload_n dX8_best_80 rfl ?_
          refine v_get 0 dX8_best_81 FTX8 (by decide) rfl fl_X8_7 hM.1 rfl ?_
          refine v_bipush (v := nI 16) dX8_best_84 (by decide) ?_
          refine v_ialdN _ dX8_best_86 hM.2.1 rfl (by omega) (by decide) hn.1 ?_
          refine v_icmp_ltN (tgt := 113) dX8_best_87 (by decide) (by have := vfk_le σ i; omega) (by have := hn.2; omega) (fun b87 => ?_) (fun b87 => ?_)
          ·
            have q : oI (bst σ (3 * a + b) (nt (σ 16)) (nt (σ (12 + nt (σ a)))) (i + 1)) = oI (bst σ (3 * a + b) (nt (σ 16)) (nt (σ (12 + nt (σ a)))) (i)) := by simp [bst, bsS, Nat.not_le.mpr b87]
            refine v_iconst (v := nI 0) dX8_best_113 (by decide) ?_
            refine v_istore dX8_best_114 (by decide) rfl ?_
            refine v_iload dX8_best_116 rfl ?_
            refine v_if_eqN (tgt := 213) dX8_best_118 (by decide) (by decide) (fun _ => ?_) (fun z => absurd z (by decide))
            refine v_iload dX8_best_213 rfl ?_
            refine v_if_eqN (tgt := 223) dX8_best_215 (by decide) (by decide) (fun _ => ?_) (fun z => absurd z (by decide))
            refine v_iload_n dX8_best_223 rfl ?_
            refine v_istore_n dX8_best_224 (by decide) rfl ?_
            refine v_iincN dX8_best_225 (by decide) rfl rfl rfl ?_
            refine v_goto (tgt := 5) dX8_best_228 (by decide) ?_
            refine v_drop 5 ?_
            refine v_drop 6 ?_
            refine v_drop 7 ?_
            refine v_drop 8 ?_
            refine v_drop 9 ?_
            refine v_drop 10 ?_
            refine v_drop 11 ?_
            refine v_eqL ?_ (ih (by omega))
            rw [q]
            rfl
          ·
            have b87 := Nat.not_lt.mp b87
            refine v_iload dX8_best_90 rfl ?_
            refine v_aload_n dX8_best_92 rfl ?_
            refine v_get 0 dX8_best_93 FTX8 (by decide) rfl fl_X8_7 hM.1 rfl ?_
            refine v_bipush (v := nI 12) dX8_best_96 (by decide) ?_
            refine v_aload_n dX8_best_98 rfl ?_
            refine v_get 0 dX8_best_99 FTX8 (by decide) rfl fl_X8_7 hM.1 rfl ?_
            refine v_iload_n dX8_best_102 rfl ?_
            refine v_ialdN _ dX8_best_103 hM.2.1 rfl (by omega) (by decide) hr.1 ?_
            refine v_iaddN dX8_best_104 ?_
            refine v_ialdN _ dX8_best_105 hM.2.1 rfl (by have := hr.2; omega) (by decide) hm.1.1 ?_
            refine v_icmp_gtN (tgt := 113) dX8_best_106 (by decide) (by have := nw_le (sft σ (1808 + 65 * i + 5)) (nt (σ (1808 + 65 * i + 4))); have := (hw i (by omega) q1).2; unfold nwr; omega) (by have := hm.1.2; omega) (fun b106 => ?_) (fun b106 => ?_)
            ·
              have q : oI (bst σ (3 * a + b) (nt (σ 16)) (nt (σ (12 + nt (σ a)))) (i + 1)) = oI (bst σ (3 * a + b) (nt (σ 16)) (nt (σ (12 + nt (σ a)))) (i)) := by simp [bst, bsS, Nat.not_le.mpr b106]
              refine v_iconst (v := nI 0) dX8_best_113 (by decide) ?_
              refine v_istore dX8_best_114 (by decide) rfl ?_
              refine v_iload dX8_best_116 rfl ?_
              refine v_if_eqN (tgt := 213) dX8_best_118 (by decide) (by decide) (fun _ => ?_) (fun z => absurd z (by decide))
              refine v_iload dX8_best_213 rfl ?_
              refine v_if_eqN (tgt := 223) dX8_best_215 (by decide) (by decide) (fun _ => ?_) (fun z => absurd z (by decide))
              refine v_iload_n dX8_best_223 rfl ?_
              refine v_istore_n dX8_best_224 (by decide) rfl ?_
              refine v_iincN dX8_best_225 (by decide) rfl rfl rfl ?_
              refine v_goto (tgt := 5) dX8_best_228 (by decide) ?_
              refine v_drop 5 ?_
              refine v_drop 6 ?_
              refine v_drop 7 ?_
              refine v_drop 8 ?_
              refine v_drop 9 ?_
              refine v_drop 10 ?_
              refine v_drop 11 ?_
              refine v_eqL ?_ (ih (by omega))
              rw [q]
              rfl
            ·
              have b106 := Nat.not_lt.mp b106
              refine v_iconst (v := nI 1) dX8_best_109 (by decide) ?_
              refine v_goto (tgt := 114) dX8_best_110 (by decide) ?_
              refine v_istore dX8_best_114 (by decide) rfl ?_
              refine v_iload dX8_best_116 rfl ?_
              refine v_if_eqN (tgt := 213) dX8_best_118 (by decide) (by decide) (fun z => absurd z (by decide)) (fun _ => ?_)
              refine v_iload_n dX8_best_121 rfl ?_
              refine v_if_lt (tgt := 213) dX8_best_122 (by decide) (fun b122 => ?_) (fun b122 => ?_)
              ·
                have hf : bst σ (3 * a + b) (nt (σ 16)) (nt (σ (12 + nt (σ a)))) (i) = none := by
                  cases hf : bst σ (3 * a + b) (nt (σ 16)) (nt (σ (12 + nt (σ a)))) (i) with
                  | none => rfl
                  | some g =>
                    have := bst_lt hf
                    rw [hf] at b122
                    exact absurd b122 (nI_nlt0 (by omega))
                have q : oI (bst σ (3 * a + b) (nt (σ 16)) (nt (σ (12 + nt (σ a)))) (i + 1)) = nI i := by simp [oI, bst, bsS, cand, hf, q1, b43, b87, b106]
                refine v_iload dX8_best_213 rfl ?_
                refine v_if_eqN (tgt := 223) dX8_best_215 (by decide) (by decide) (fun z => absurd z (by decide)) (fun _ => ?_)
                refine v_iload dX8_best_218 rfl ?_
                refine v_goto (tgt := 224) dX8_best_220 (by decide) ?_
                refine v_istore_n dX8_best_224 (by decide) rfl ?_
                refine v_iincN dX8_best_225 (by decide) rfl rfl rfl ?_
                refine v_goto (tgt := 5) dX8_best_228 (by decide) ?_
                refine v_drop 5 ?_
                refine v_drop 6 ?_
                refine v_drop 7 ?_
                refine v_drop 8 ?_
                refine v_drop 9 ?_
                refine v_drop 10 ?_
                refine v_drop 11 ?_
                refine v_eqL ?_ (ih (by omega))
                rw [q]
                rfl
              ·
                obtain ⟨g, hf⟩ : ∃ g, bst σ (3 * a + b) (nt (σ 16)) (nt (σ (12 + nt (σ a)))) (i) = some g := by
                  cases hf : bst σ (3 * a + b) (nt (σ 16)) (nt (σ (12 + nt (σ a)))) (i) with
                  | none => rw [hf] at b122; exact absurd (by decide) b122
                  | some g => exact ⟨g, rfl⟩
                have hg := bst_lt hf
                have qg : (0 : Int32) ≤ σ (1808 + 65 * g) := by
                  have := hg.2
                  simp only [cand, Bool.and_eq_true, decide_eq_true_eq] at this
                  exact this.1
                have e9 : oI (bst σ (3 * a + b) (nt (σ 16)) (nt (σ (12 + nt (σ a)))) (i)) = nI g := by rw [hf]; rfl
                rw [e9]
                have v1 := vfk_le σ i
                have v2 := vfk_le σ g
                have n1 := nw_le (sft σ (1808 + 65 * i + 5)) (nt (σ (1808 + 65 * i + 4)))
                have n2 := nw_le (sft σ (1808 + 65 * g + 5)) (nt (σ (1808 + 65 * g + 4)))
                have n3 := (hw i (by omega) q1).2
                have n4 := (hw g (by omega) qg).2
                refine v_iload_n dX8_best_125 rfl ?_
                refine u_rS1 oX8_paper dX8_best_126 ml_X8_49 (c_paper g) (by decide) (Nat.le_of_ble_eq_true rfl) (Nat.le_refl _) (Nat.le_refl _) ?_
                refine v_istore dX8_best_129 (by decide) rfl ?_
                refine v_iload dX8_best_131 rfl ?_
                refine v_aload_n dX8_best_133 rfl ?_
                refine v_aload_n dX8_best_134 rfl ?_
                refine v_get 0 dX8_best_135 FTX8 (by decide) rfl fl_X8_7 hM.1 rfl ?_
                refine v_iload dX8_best_138 rfl ?_
                refine v_iald _ dX8_best_140 hM.2.1 rfl (by omega) (by decide) ?_
                refine u_rV1 oX8_votesFor dX8_best_141 ml_X8_53 (show Rd mX8_votesFor 0 _ w (some (.int (nI (vfk σ g)))) from c_votesFor hM _) hM.1 (by decide) (Nat.le_of_ble_eq_true rfl) (Nat.le_refl _) (Nat.le_refl _) ?_
                refine v_isub dX8_best_144 ?_
                refine v_istore dX8_best_145 (by decide) rfl ?_
                refine v_iload dX8_best_147 rfl ?_
                refine v_aload_n dX8_best_149 rfl ?_
                refine v_iload dX8_best_150 rfl ?_
                refine v_iconst (v := nI 5) dX8_best_152 (by decide) ?_
                refine v_iaddN dX8_best_153 ?_
                refine v_aload_n dX8_best_154 rfl ?_
                refine v_get 0 dX8_best_155 FTX8 (by decide) rfl fl_X8_7 hM.1 rfl ?_
                refine v_iload dX8_best_158 rfl ?_
                refine v_iconst (v := nI 4) dX8_best_160 (by decide) ?_
                refine v_iaddN dX8_best_161 ?_
                refine v_ialdN _ dX8_best_162 hM.2.1 rfl (by omega) (by decide) (hw g (by omega) qg).1 ?_
                refine u_rV2 oX8_words dX8_best_163 ml_X8_32 (show Rd mX8_words 0 _ w (some (.int (nI (nwr σ g)))) from c_words hM _ _ (by have := (hw g (by omega) qg).2; omega)) hM.1 (by decide) (Nat.le_of_ble_eq_true rfl) (Nat.le_refl _) (Nat.le_refl _) ?_
                refine v_isub dX8_best_166 ?_
                refine v_istore dX8_best_167 (by decide) rfl ?_
                refine v_iload dX8_best_169 rfl ?_
                refine v_if_gt (tgt := 206) dX8_best_171 (by decide) (fun b171 => ?_) (fun b171 => ?_)
                ·
                  have c1 := (nI_sub_pos (by omega) (by omega)).mp b171
                  have q : oI (bst σ (3 * a + b) (nt (σ 16)) (nt (σ (12 + nt (σ a)))) (i + 1)) = nI i := by simp [oI, bst, bsS, cand, hf, btr, q1, b43, b87, b106, c1]
                  refine v_iconst (v := nI 1) dX8_best_206 (by decide) ?_
                  refine v_goto (tgt := 211) dX8_best_207 (by decide) ?_
                  refine v_istore dX8_best_211 (by decide) rfl ?_
                  refine v_iload dX8_best_213 rfl ?_
                  refine v_if_eqN (tgt := 223) dX8_best_215 (by decide) (by decide) (fun z => absurd z (by decide)) (fun _ => ?_)
                  refine v_iload dX8_best_218 rfl ?_
                  refine v_goto (tgt := 224) dX8_best_220 (by decide) ?_
                  refine v_istore_n dX8_best_224 (by decide) rfl ?_
                  refine v_iincN dX8_best_225 (by decide) rfl rfl rfl ?_
                  refine v_goto (tgt := 5) dX8_best_228 (by decide) ?_
                  refine v_drop 5 ?_
                  refine v_drop 6 ?_
                  refine v_drop 7 ?_
                  refine v_drop 8 ?_
                  refine v_drop 9 ?_
                  refine v_drop 10 ?_
                  refine v_drop 11 ?_
                  refine v_eqL ?_ (ih (by omega))
                  rw [q]
                  rfl
                ·
                  have c1 := mt (nI_sub_pos (a := vfk σ i) (b := vfk σ g) (by omega) (by omega)).mpr b171
                  refine v_iload dX8_best_174 rfl ?_
                  refine v_if_ne (tgt := 210) dX8_best_176 (by decide) (fun b176 => ?_) (fun b176 => ?_)
                  ·
                    have c2 := mt (nI_sub_0 (a := vfk σ i) (b := vfk σ g) (by omega) (by omega)).mpr b176
                    have q : oI (bst σ (3 * a + b) (nt (σ 16)) (nt (σ (12 + nt (σ a)))) (i + 1)) = nI g := by simp [oI, bst, bsS, cand, hf, btr, q1, b43, b87, b106, c1, c2]
                    refine v_iconst (v := nI 0) dX8_best_210 (by decide) ?_
                    refine v_istore dX8_best_211 (by decide) rfl ?_
                    refine v_iload dX8_best_213 rfl ?_
                    refine v_if_eqN (tgt := 223) dX8_best_215 (by decide) (by decide) (fun _ => ?_) (fun z => absurd z (by decide))
                    refine v_iload_n dX8_best_223 rfl ?_
                    refine v_istore_n dX8_best_224 (by decide) rfl ?_
                    refine v_iincN dX8_best_225 (by decide) rfl rfl rfl ?_
                    refine v_goto (tgt := 5) dX8_best_228 (by decide) ?_
                    refine v_drop 5 ?_
                    refine v_drop 6 ?_
                    refine v_drop 7 ?_
                    refine v_drop 8 ?_
                    refine v_drop 9 ?_
                    refine v_drop 10 ?_
                    refine v_drop 11 ?_
                    refine v_eqL ?_ (ih (by omega))
                    rw [q]
                    rfl
                  ·
                    have c2 := (nI_sub_0 (by omega) (by omega)).mp b176
                    have b87g : nt (σ 16) ≤ vfk σ g := by omega
                    refine v_iload dX8_best_179 rfl ?_
                    refine v_if_lt (tgt := 206) dX8_best_181 (by decide) (fun b181 => ?_) (fun b181 => ?_)
                    ·
                      have c3 : nwr σ i < nwr σ g := (nI_sub_neg (by unfold nwr; omega) (by unfold nwr; omega)).mp b181
                      have q : oI (bst σ (3 * a + b) (nt (σ 16)) (nt (σ (12 + nt (σ a)))) (i + 1)) = nI i := by simp [oI, bst, bsS, cand, hf, btr, q1, b43, b87, b106, c2, c3, b87g]
                      refine v_iconst (v := nI 1) dX8_best_206 (by decide) ?_
                      refine v_goto (tgt := 211) dX8_best_207 (by decide) ?_
                      refine v_istore dX8_best_211 (by decide) rfl ?_
                      refine v_iload dX8_best_213 rfl ?_
                      refine v_if_eqN (tgt := 223) dX8_best_215 (by decide) (by decide) (fun z => absurd z (by decide)) (fun _ => ?_)
                      refine v_iload dX8_best_218 rfl ?_
                      refine v_goto (tgt := 224) dX8_best_220 (by decide) ?_
                      refine v_istore_n dX8_best_224 (by decide) rfl ?_
                      refine v_iincN dX8_best_225 (by decide) rfl rfl rfl ?_
                      refine v_goto (tgt := 5) dX8_best_228 (by decide) ?_
                      refine v_drop 5 ?_
                      refine v_drop 6 ?_
                      refine v_drop 7 ?_
                      refine v_drop 8 ?_
                      refine v_drop 9 ?_
                      refine v_drop 10 ?_
                      refine v_drop 11 ?_
                      refine v_eqL ?_ (ih (by omega))
                      rw [q]
                      rfl
                    ·
                      have c3 : ¬ nwr σ i < nwr σ g := mt (nI_sub_neg (by unfold nwr; omega) (by unfold nwr; omega)).mpr b181
                      refine v_iload dX8_best_184 rfl ?_
                      refine v_if_ne (tgt := 210) dX8_best_186 (by decide) (fun b186 => ?_) (fun b186 => ?_)
                      ·
                        have c4 : ¬ nwr σ i = nwr σ g := mt (nI_sub_0 (by unfold nwr; omega) (by unfold nwr; omega)).mpr b186
                        have q : oI (bst σ (3 * a + b) (nt (σ 16)) (nt (σ (12 + nt (σ a)))) (i + 1)) = nI g := by simp [oI, bst, bsS, cand, hf, btr, q1, b43, b87, b106, c2, c3, c4]
                        refine v_iconst (v := nI 0) dX8_best_210 (by decide) ?_
                        refine v_istore dX8_best_211 (by decide) rfl ?_
                        refine v_iload dX8_best_213 rfl ?_
                        refine v_if_eqN (tgt := 223) dX8_best_215 (by decide) (by decide) (fun _ => ?_) (fun z => absurd z (by decide))
                        refine v_iload_n dX8_best_223 rfl ?_
                        refine v_istore_n dX8_best_224 (by decide) rfl ?_
                        refine v_iincN dX8_best_225 (by decide) rfl rfl rfl ?_
                        refine v_goto (tgt := 5) dX8_best_228 (by decide) ?_
                        refine v_drop 5 ?_
                        refine v_drop 6 ?_
                        refine v_drop 7 ?_
                        refine v_drop 8 ?_
                        refine v_drop 9 ?_
                        refine v_drop 10 ?_
                        refine v_drop 11 ?_
                        refine v_eqL ?_ (ih (by omega))
                        rw [q]
                        rfl
                      ·
                        have c4 : nwr σ i = nwr σ g := (nI_sub_0 (by unfold nwr; omega) (by unfold nwr; omega)).mp b186
                        have b106g : nwr σ g ≤ (nt (σ (12 + nt (σ a)))) := by omega
                        refine v_aload_n dX8_best_189 rfl ?_
                        refine v_get 0 dX8_best_190 FTX8 (by decide) rfl fl_X8_7 hM.1 rfl ?_
                        refine v_iload dX8_best_193 rfl ?_
                        refine v_iald _ dX8_best_195 hM.2.1 rfl (by omega) (by decide) ?_
                        refine v_aload_n dX8_best_196 rfl ?_
                        refine v_get 0 dX8_best_197 FTX8 (by decide) rfl fl_X8_7 hM.1 rfl ?_
                        refine v_iload dX8_best_200 rfl ?_
                        refine v_iald _ dX8_best_202 hM.2.1 rfl (by omega) (by decide) ?_
                        refine v_icmp_ge (tgt := 210) dX8_best_203 (by decide) (fun b203 => ?_) (fun b203 => ?_)
                        ·
                          have c5 : ¬ σ (1808 + 65 * i) < σ (1808 + 65 * g) := Int32.not_lt.mpr b203
                          have q : oI (bst σ (3 * a + b) (nt (σ 16)) (nt (σ (12 + nt (σ a)))) (i + 1)) = nI g := by simp [oI, bst, bsS, cand, hf, btr, q1, b43, b87, b106, c2, c4, c5]
                          refine v_iconst (v := nI 0) dX8_best_210 (by decide) ?_
                          refine v_istore dX8_best_211 (by decide) rfl ?_
                          refine v_iload dX8_best_213 rfl ?_
                          refine v_if_eqN (tgt := 223) dX8_best_215 (by decide) (by decide) (fun _ => ?_) (fun z => absurd z (by decide))
                          refine v_iload_n dX8_best_223 rfl ?_
                          refine v_istore_n dX8_best_224 (by decide) rfl ?_
                          refine v_iincN dX8_best_225 (by decide) rfl rfl rfl ?_
                          refine v_goto (tgt := 5) dX8_best_228 (by decide) ?_
                          refine v_drop 5 ?_
                          refine v_drop 6 ?_
                          refine v_drop 7 ?_
                          refine v_drop 8 ?_
                          refine v_drop 9 ?_
                          refine v_drop 10 ?_
                          refine v_drop 11 ?_
                          refine v_eqL ?_ (ih (by omega))
                          rw [q]
                          rfl
                        ·
                          have c5 : σ (1808 + 65 * i) < σ (1808 + 65 * g) := Int32.not_le.mp b203
                          have q : oI (bst σ (3 * a + b) (nt (σ 16)) (nt (σ (12 + nt (σ a)))) (i + 1)) = nI i := by simp [oI, bst, bsS, cand, hf, btr, q1, b43, b87, b106, c2, c4, c5, b87g, b106g]
                          refine v_iconst (v := nI 1) dX8_best_206 (by decide) ?_
                          refine v_goto (tgt := 211) dX8_best_207 (by decide) ?_
                          refine v_istore dX8_best_211 (by decide) rfl ?_
                          refine v_iload dX8_best_213 rfl ?_
                          refine v_if_eqN (tgt := 223) dX8_best_215 (by decide) (by decide) (fun z => absurd z (by decide)) (fun _ => ?_)
                          refine v_iload dX8_best_218 rfl ?_
                          refine v_goto (tgt := 224) dX8_best_220 (by decide) ?_
                          refine v_istore_n dX8_best_224 (by decide) rfl ?_
                          refine v_iincN dX8_best_225 (by decide) rfl rfl rfl ?_
                          refine v_goto (tgt := 5) dX8_best_228 (by decide) ?_
                          refine v_drop 5 ?_
                          refine v_drop 6 ?_
                          refine v_drop 7 ?_
                          refine v_drop 8 ?_
                          refine v_drop 9 ?_
                          refine v_drop 10 ?_
                          refine v_drop 11 ?_
                          refine v_eqL ?_ (ih (by omega))
                          rw [q]
                          rfl
  exact LP5 0 (Nat.zero_le _)
