set_option maxHeartbeats 1000000 in
set_option maxRecDepth 100000 in
theorem c_ewA {w1 : Wd} {o n1 tn sz : Nat} {kp : Int32} {σ1 tx cm : Nat → Int32} (h1 : MW w1 o n1 tn kp σ1 tx cm) {Po : Option Value → Wd → Nat → Prop} {NN : Nat} {τ2 : Nat → Int32} (hPo : ∀ w', MW w' o n1 tn kp (upd (upd (agS τ2 16) 19 (agS τ2 16 19 + nI NN)) 17 (agS τ2 16 17 + nI 1)) tx cm → frO o w1 w' → Po (some (.int (nI NN))) w' sz) : V mX8_endWeek 3 0 0 Po (wu w1 (o + 1) (ia 1 17088 τ2)) sz 0 0 [some (.ref o), some (.int (nI NN)), some (.int (nI 8)), none, none, none, none, none] [] 195 := by
  refine v_iconst (v := nI 0) dX8_endWeek_195 (by decide) ?_
  refine v_istore_n dX8_endWeek_196 (by decide) rfl ?_
  have LP197 : ∀ k, k ≤ 16 → V mX8_endWeek 3 0 0 Po (wu w1 (o + 1) (ia 1 17088 (agS τ2 k))) sz 0 0 [some (.ref o), some (.int (nI NN)), some (.int (nI k)), none, none, none, none, none] [] 197 := by
    refine dn (fun k hk ihk => ?_)
    refine v_iload_n dX8_endWeek_197 rfl ?_
    refine v_bipush (v := nI 16) dX8_endWeek_198 (by decide) ?_
    refine v_icmp_geN (tgt := 263) dX8_endWeek_200 (by decide) (by omega) (by omega) (fun b200 => ?_) (fun b200 => ?_)
    ·
      have e8 : k = 16 := by omega
      subst e8
      refine v_aload_n dX8_endWeek_263 rfl ?_
      refine v_get 0 dX8_endWeek_264 FTX8 (by decide) rfl fl_X8_7 (h1.st _).1 rfl ?_
      refine v_bipush (v := nI 19) dX8_endWeek_267 (by decide) ?_
      refine v_dup2 dX8_endWeek_269 rfl rfl ?_
      refine v_iald _ dX8_endWeek_270 (h1.st _).2.1 rfl (by omega) (by decide) ?_
      refine v_iload_n dX8_endWeek_271 rfl ?_
      refine v_iadd dX8_endWeek_272 ?_
      refine v_iast _ dX8_endWeek_273 (h1.st _).2.1 rfl (by omega) (by decide) ?_
      refine v_eqw (wu_wu _ _ _ _).symm ?_
      refine v_aload_n dX8_endWeek_274 rfl ?_
      refine v_get 0 dX8_endWeek_275 FTX8 (by decide) rfl fl_X8_7 (h1.st _).1 rfl ?_
      refine v_bipush (v := nI 17) dX8_endWeek_278 (by decide) ?_
      refine v_dup2 dX8_endWeek_280 rfl rfl ?_
      refine v_ialdE _ dX8_endWeek_281 (h1.st _).2.1 rfl (by omega) (by decide) (up_ne _ _ (by omega)) ?_
      refine v_iconst (v := nI 1) dX8_endWeek_282 (by decide) ?_
      refine v_iadd dX8_endWeek_283 ?_
      refine v_iast _ dX8_endWeek_284 (h1.st _).2.1 rfl (by omega) (by decide) ?_
      refine v_eqw (wu_wu _ _ _ _).symm ?_
      refine v_iload_n dX8_endWeek_285 rfl ?_
      refine v_iret dX8_endWeek_286 rfl (Nat.le_refl _) (Nat.le_refl _) ?_
      exact hPo _ (h1.st _) ((frO.rf o w1).wu _ (by omega) (by omega))
    ·
      refine v_iload_n dX8_endWeek_203 rfl ?_
      refine u_rS1 oX8_paper dX8_endWeek_204 ml_X8_49 (c_paper k) (by decide) (Nat.le_of_ble_eq_true rfl) (Nat.le_refl _) (Nat.le_refl _) ?_
      refine v_istore_n dX8_endWeek_207 (by decide) rfl ?_
      refine v_aload_n dX8_endWeek_208 rfl ?_
      refine v_get 0 dX8_endWeek_209 FTX8 (by decide) rfl fl_X8_7 (h1.st _).1 rfl ?_
      refine v_iload_n dX8_endWeek_212 rfl ?_
      refine v_iald _ dX8_endWeek_213 (h1.st _).2.1 rfl (by omega) (by decide) ?_
      refine v_if_lt (tgt := 257) dX8_endWeek_214 (by decide) (fun b214 => ?_) (fun b214 => ?_)
      ·
        have qA : agS τ2 (k + 1) = agS τ2 k := by
          show agk (agS τ2 k) k = _
          unfold agk
          rw [if_neg (Int32.not_le.mpr b214)]
        refine v_iincN dX8_endWeek_257 (by decide) rfl rfl rfl ?_
        refine v_goto (tgt := 197) dX8_endWeek_260 (by decide) ?_
        refine v_drop 3 ?_
        refine v_sg qA ?_
        exact ihk (by omega)
      ·
        have q0 := Int32.not_lt.mp b214
        refine v_aload_n dX8_endWeek_217 rfl ?_
        refine v_get 0 dX8_endWeek_218 FTX8 (by decide) rfl fl_X8_7 (h1.st _).1 rfl ?_
        refine v_iload_n dX8_endWeek_221 rfl ?_
        refine v_iconst (v := nI 3) dX8_endWeek_222 (by decide) ?_
        refine v_iaddN dX8_endWeek_223 ?_
        refine v_dup2 dX8_endWeek_224 rfl rfl ?_
        refine v_iald _ dX8_endWeek_225 (h1.st _).2.1 rfl (by omega) (by decide) ?_
        refine v_iconst (v := nI 1) dX8_endWeek_226 (by decide) ?_
        refine v_iadd dX8_endWeek_227 ?_
        refine v_iast _ dX8_endWeek_228 (h1.st _).2.1 rfl (by omega) (by decide) ?_
        refine v_eqw (wu_wu _ _ _ _).symm ?_
        refine v_aload_n dX8_endWeek_229 rfl ?_
        refine v_get 0 dX8_endWeek_230 FTX8 (by decide) rfl fl_X8_7 (h1.st _).1 rfl ?_
        refine v_iload_n dX8_endWeek_233 rfl ?_
        refine v_iconst (v := nI 3) dX8_endWeek_234 (by decide) ?_
        refine v_iaddN dX8_endWeek_235 ?_
        refine v_ialdE _ dX8_endWeek_236 (h1.st _).2.1 rfl (by omega) (by decide) (up_eq _ _ _) ?_
        refine v_iconst (v := nI 3) dX8_endWeek_237 (by decide) ?_
        refine v_icmp_ne (tgt := 257) dX8_endWeek_238 (by decide) (fun b238 => ?_) (fun b238 => ?_)
        ·
          have qA : agS τ2 (k + 1) = upd (agS τ2 k) (1808 + 65 * k + 3) (agS τ2 k (1808 + 65 * k + 3) + nI 1) := by
            show agk (agS τ2 k) k = _
            unfold agk
            rw [if_pos q0, if_neg b238]
          refine v_iincN dX8_endWeek_257 (by decide) rfl rfl rfl ?_
          refine v_goto (tgt := 197) dX8_endWeek_260 (by decide) ?_
          refine v_drop 3 ?_
          refine v_sg qA ?_
          exact ihk (by omega)
        ·
          have qA : agS τ2 (k + 1) = upd (gone (upd (agS τ2 k) (1808 + 65 * k + 3) (agS τ2 k (1808 + 65 * k + 3) + nI 1)) k) 20 (agS τ2 k 20 + nI 1) := by
            show agk (agS τ2 k) k = _
            unfold agk
            rw [if_pos q0, if_pos b238]
          refine v_aload_n dX8_endWeek_241 rfl ?_
          refine v_iload_n dX8_endWeek_242 rfl ?_
          refine n_wV1 oX8_goes dX8_endWeek_243 ml_X8_98 (c_goes (h1.st _) k (by omega)) (h1.st _).1 (by decide) (Nat.le_of_ble_eq_true rfl) (Nat.le_refl _) (Nat.le_refl _) ?_
          refine v_eqw (wu_wu _ _ _ _).symm ?_
          refine v_aload_n dX8_endWeek_246 rfl ?_
          refine v_get 0 dX8_endWeek_247 FTX8 (by decide) rfl fl_X8_7 (h1.st _).1 rfl ?_
          refine v_bipush (v := nI 20) dX8_endWeek_250 (by decide) ?_
          refine v_dup2 dX8_endWeek_252 rfl rfl ?_
          refine v_ialdE _ dX8_endWeek_253 (h1.st _).2.1 rfl (by omega) (by decide) ((gone_out (by omega) (by omega)).trans (up_ne _ _ (by omega))) ?_
          refine v_iconst (v := nI 1) dX8_endWeek_254 (by decide) ?_
          refine v_iadd dX8_endWeek_255 ?_
          refine v_iast _ dX8_endWeek_256 (h1.st _).2.1 rfl (by omega) (by decide) ?_
          refine v_eqw (wu_wu _ _ _ _).symm ?_
          refine v_iincN dX8_endWeek_257 (by decide) rfl rfl rfl ?_
          refine v_goto (tgt := 197) dX8_endWeek_260 (by decide) ?_
          refine v_drop 3 ?_
          refine v_sg qA ?_
          exact ihk (by omega)
  refine v_drop 3 ?_
  refine v_sg (show agS τ2 0 = τ2 from rfl) ?_
  exact LP197 0 (Nat.zero_le _)
set_option maxHeartbeats 1000000 in
set_option maxRecDepth 100000 in
theorem c_ewS {w1 : Wd} {o n1 tn sz : Nat} {kp : Int32} {σ1 tx cm : Nat → Int32} (h1 : MW w1 o n1 tn kp σ1 tx cm) {Po : Option Value → Wd → Nat → Prop} {NN a b k : Nat} (ha : a < 8) (hb : b < 3) (hk : k < 16) {τ : Nat → Int32} (hr : rwk τ k) (K : V mX8_endWeek 3 0 0 Po (wu w1 (o + 1) (ia 1 17088 (accS τ (3 * a + b) k))) sz 0 0 [some (.ref o), some (.int (nI (NN + 1))), some (.int (nI a)), some (.int (nI b)), none, none, none, none] [] 183) : V mX8_endWeek 3 0 0 Po (wu w1 (o + 1) (ia 1 17088 τ)) sz 0 0 [some (.ref o), some (.int (nI NN)), some (.int (nI a)), some (.int (nI b)), some (.int (nI k)), none, none, none] [] 34 := by
  have hn5 := hr.2.2.2.2.1.2
  have hv5 := hr.2.2.1.2
  refine v_iload_n dX8_endWeek_34 rfl ?_
  refine v_iload_n dX8_endWeek_35 rfl ?_
  refine u_rS2 oX8_rowOf dX8_endWeek_36 ml_X8_28 (c_rowOf a b) (by decide) (Nat.le_of_ble_eq_true rfl) (Nat.le_refl _) (Nat.le_refl _) ?_
  refine v_istore dX8_endWeek_39 (by decide) rfl ?_
  refine v_iload dX8_endWeek_41 rfl ?_
  refine u_rS1 oX8_paper dX8_endWeek_43 ml_X8_49 (c_paper k) (by decide) (Nat.le_of_ble_eq_true rfl) (Nat.le_refl _) (Nat.le_refl _) ?_
  refine v_istore dX8_endWeek_46 (by decide) rfl ?_
  refine v_aload_n dX8_endWeek_48 rfl ?_
  refine v_get 0 dX8_endWeek_49 FTX8 (by decide) rfl fl_X8_7 (h1.st _).1 rfl ?_
  refine v_iload dX8_endWeek_52 rfl ?_
  refine v_aload_n dX8_endWeek_54 rfl ?_
  refine v_get 0 dX8_endWeek_55 FTX8 (by decide) rfl fl_X8_7 (h1.st _).1 rfl ?_
  refine v_iload dX8_endWeek_58 rfl ?_
  refine v_iconst (v := nI 4) dX8_endWeek_60 (by decide) ?_
  refine v_iaddN dX8_endWeek_61 ?_
  refine v_iald _ dX8_endWeek_62 (h1.st _).2.1 rfl (by omega) (by decide) ?_
  refine v_iast _ dX8_endWeek_63 (h1.st _).2.1 rfl (by omega) (by decide) ?_
  refine v_eqw (wu_wu _ _ _ _).symm ?_
  refine v_aload_n dX8_endWeek_64 rfl ?_
  refine v_get 0 dX8_endWeek_65 FTX8 (by decide) rfl fl_X8_7 (h1.st _).1 rfl ?_
  refine v_iload dX8_endWeek_68 rfl ?_
  refine v_iconst (v := nI 1) dX8_endWeek_70 (by decide) ?_
  refine v_iaddN dX8_endWeek_71 ?_
  refine v_aload_n dX8_endWeek_72 rfl ?_
  refine v_get 0 dX8_endWeek_73 FTX8 (by decide) rfl fl_X8_7 (h1.st _).1 rfl ?_
  refine v_iload dX8_endWeek_76 rfl ?_
  refine v_iconst (v := nI 2) dX8_endWeek_78 (by decide) ?_
  refine v_iaddN dX8_endWeek_79 ?_
  refine v_ialdE _ dX8_endWeek_80 (h1.st _).2.1 rfl (by omega) (by decide) (up_ne _ _ (by omega)) ?_
  refine v_iast _ dX8_endWeek_81 (h1.st _).2.1 rfl (by omega) (by decide) ?_
  refine v_eqw (wu_wu _ _ _ _).symm ?_
  refine v_aload_n dX8_endWeek_82 rfl ?_
  refine v_get 0 dX8_endWeek_83 FTX8 (by decide) rfl fl_X8_7 (h1.st _).1 rfl ?_
  refine v_iload dX8_endWeek_86 rfl ?_
  refine v_iconst (v := nI 2) dX8_endWeek_88 (by decide) ?_
  refine v_iaddN dX8_endWeek_89 ?_
  refine v_aload_n dX8_endWeek_90 rfl ?_
  refine v_get 0 dX8_endWeek_91 FTX8 (by decide) rfl fl_X8_7 (h1.st _).1 rfl ?_
  refine v_bipush (v := nI 17) dX8_endWeek_94 (by decide) ?_
  refine v_ialdE _ dX8_endWeek_96 (h1.st _).2.1 rfl (by omega) (by decide) ((up_ne _ _ (by omega)).trans (up_ne _ _ (by omega))) ?_
  refine v_iast _ dX8_endWeek_97 (h1.st _).2.1 rfl (by omega) (by decide) ?_
  refine v_eqw (wu_wu _ _ _ _).symm ?_
  refine v_aload_n dX8_endWeek_98 rfl ?_
  refine v_get 0 dX8_endWeek_99 FTX8 (by decide) rfl fl_X8_7 (h1.st _).1 rfl ?_
  refine v_iload dX8_endWeek_102 rfl ?_
  refine v_iconst (v := nI 3) dX8_endWeek_104 (by decide) ?_
  refine v_iaddN dX8_endWeek_105 ?_
  refine v_iconst (v := nI 0) dX8_endWeek_106 (by decide) ?_
  refine v_iast _ dX8_endWeek_107 (h1.st _).2.1 rfl (by omega) (by decide) ?_
  refine v_eqw (wu_wu _ _ _ _).symm ?_
  refine v_iconst (v := nI 0) dX8_endWeek_108 (by decide) ?_
  refine v_istore dX8_endWeek_109 (by decide) rfl ?_
  have LP111 : ∀ c, c ≤ nt (τ (1808 + 65 * k + 4)) → V mX8_endWeek 3 0 0 Po (wu w1 (o + 1) (ia 1 17088 (lay (upd (upd (upd (upd τ (272 + 64 * (3 * a + b)) (τ (1808 + 65 * k + 4))) (272 + 64 * (3 * a + b) + 1) (τ (1808 + 65 * k + 2))) (272 + 64 * (3 * a + b) + 2) (τ 17)) (272 + 64 * (3 * a + b) + 3) (nI 0)) (sft τ (1808 + 65 * k + 5)) (272 + 64 * (3 * a + b) + 4) c))) sz 0 0 [some (.ref o), some (.int (nI NN)), some (.int (nI a)), some (.int (nI b)), some (.int (nI k)), some (.int (nI (272 + 64 * (3 * a + b)))), some (.int (nI (1808 + 65 * k))), some (.int (nI c))] [] 111 := by
    refine dn (fun c hc ihc => ?_)
    refine v_iload dX8_endWeek_111 rfl ?_
    refine v_aload_n dX8_endWeek_113 rfl ?_
    refine v_get 0 dX8_endWeek_114 FTX8 (by decide) rfl fl_X8_7 (h1.st _).1 rfl ?_
    refine v_iload dX8_endWeek_117 rfl ?_
    refine v_ialdN _ dX8_endWeek_119 (h1.st _).2.1 rfl (by omega) (by decide) ((lay_out (by omega)).trans (((up_ne _ _ (by omega)).trans ((up_ne _ _ (by omega)).trans ((up_ne _ _ (by omega)).trans (up_eq _ _ _)))).trans hr.2.2.2.2.1.1)) ?_
    refine v_icmp_geN (tgt := 153) dX8_endWeek_120 (by decide) (by omega) (by omega) (fun b120 => ?_) (fun b120 => ?_)
    ·
      have e9 : c = nt (τ (1808 + 65 * k + 4)) := by omega
      subst e9
      refine v_sg (show ac0 τ (3 * a + b) k = _ from rfl) ?_
      refine v_aload_n dX8_endWeek_153 rfl ?_
      refine v_get 0 dX8_endWeek_154 FTX8 (by decide) rfl fl_X8_7 (h1.st _).1 rfl ?_
      refine v_bipush (v := nI 22) dX8_endWeek_157 (by decide) ?_
      refine v_aload_n dX8_endWeek_159 rfl ?_
      refine v_get 0 dX8_endWeek_160 FTX8 (by decide) rfl fl_X8_7 (h1.st _).1 rfl ?_
      refine v_iload dX8_endWeek_163 rfl ?_
      refine v_iconst (v := nI 2) dX8_endWeek_165 (by decide) ?_
      refine v_iaddN dX8_endWeek_166 ?_
      refine v_ialdN _ dX8_endWeek_167 (h1.st _).2.1 rfl (by omega) (by decide) ((ac0_out (by omega) (by omega)).trans hr.2.2.1.1) ?_
      refine v_iaddN dX8_endWeek_168 ?_
      refine v_dup2 dX8_endWeek_169 rfl rfl ?_
      refine v_ialdE _ dX8_endWeek_170 (h1.st _).2.1 rfl (by omega) (by decide) (ac0_out (by omega) (by omega)) ?_
      refine v_iconst (v := nI 1) dX8_endWeek_171 (by decide) ?_
      refine v_iadd dX8_endWeek_172 ?_
      refine v_iast _ dX8_endWeek_173 (h1.st _).2.1 rfl (by omega) (by decide) ?_
      refine v_eqw (wu_wu _ _ _ _).symm ?_
      refine v_sg (show ac1 τ (3 * a + b) k = _ from rfl) ?_
      refine v_aload_n dX8_endWeek_174 rfl ?_
      refine v_iload dX8_endWeek_175 rfl ?_
      refine n_wV1 oX8_goes dX8_endWeek_177 ml_X8_98 (c_goes (h1.st (ac1 τ (3 * a + b) k)) k hk) (h1.st _).1 (by decide) (Nat.le_of_ble_eq_true rfl) (Nat.le_refl _) (Nat.le_refl _) ?_
      refine v_eqw (wu_wu _ _ _ _).symm ?_
      refine v_iincN dX8_endWeek_180 (by decide) rfl rfl rfl ?_
      refine v_drop 4 ?_
      refine v_drop 5 ?_
      refine v_drop 6 ?_
      refine v_drop 7 ?_
      exact K
    ·
      refine v_aload_n dX8_endWeek_123 rfl ?_
      refine v_get 0 dX8_endWeek_124 FTX8 (by decide) rfl fl_X8_7 (h1.st _).1 rfl ?_
      refine v_iload dX8_endWeek_127 rfl ?_
      refine v_iconst (v := nI 4) dX8_endWeek_129 (by decide) ?_
      refine v_iaddN dX8_endWeek_130 ?_
      refine v_iload dX8_endWeek_131 rfl ?_
      refine v_iaddN dX8_endWeek_133 ?_
      refine v_aload_n dX8_endWeek_134 rfl ?_
      refine v_get 0 dX8_endWeek_135 FTX8 (by decide) rfl fl_X8_7 (h1.st _).1 rfl ?_
      refine v_iload dX8_endWeek_138 rfl ?_
      refine v_iconst (v := nI 5) dX8_endWeek_140 (by decide) ?_
      refine v_iaddN dX8_endWeek_141 ?_
      refine v_iload dX8_endWeek_142 rfl ?_
      refine v_iaddN dX8_endWeek_144 ?_
      refine v_ialdE _ dX8_endWeek_145 (h1.st _).2.1 rfl (by omega) (by decide) ((lay_out (by omega)).trans ((up_ne _ _ (by omega)).trans ((up_ne _ _ (by omega)).trans ((up_ne _ _ (by omega)).trans (up_ne _ _ (by omega)))))) ?_
      refine v_iast _ dX8_endWeek_146 (h1.st _).2.1 rfl (by omega) (by decide) ?_
      refine v_eqw (wu_wu _ _ _ _).symm ?_
      refine v_iincN dX8_endWeek_147 (by decide) rfl rfl rfl ?_
      refine v_goto (tgt := 111) dX8_endWeek_150 (by decide) ?_
      refine v_sg (lay_S _ _ _ _).symm ?_
      exact ihc (by omega)
  refine v_sg (lay_0 _ (sft τ (1808 + 65 * k + 5)) (272 + 64 * (3 * a + b) + 4)) ?_
  exact LP111 0 (Nat.zero_le _)
theorem wkS_N {σ : Nat → Int32} {p : Nat} (h : bst (wkS σ p) p (nt (σ 16)) (limW σ (p / 3)) 16 = none) : wkS σ (p + 1) = wkS σ p := by
  rw [wkS, h]
theorem wkS_S {σ : Nat → Int32} {p k : Nat} (h : bst (wkS σ p) p (nt (σ 16)) (limW σ (p / 3)) 16 = some k) : wkS σ (p + 1) = accS (wkS σ p) p k := by
  rw [wkS, h]
theorem wkN_N {σ : Nat → Int32} {p : Nat} (h : bst (wkS σ p) p (nt (σ 16)) (limW σ (p / 3)) 16 = none) : wkN σ (p + 1) = wkN σ p := by
  rw [wkN, h]
theorem wkN_S {σ : Nat → Int32} {p k : Nat} (h : bst (wkS σ p) p (nt (σ 16)) (limW σ (p / 3)) 16 = some k) : wkN σ (p + 1) = wkN σ p + 1 := by
  rw [wkN, h]
set_option maxHeartbeats 1000000 in
set_option maxRecDepth 100000 in
theorem c_endWeek {w : Wd} {o ns tn : Nat} {kp : Int32} {σ tx cm : Nat → Int32} (hM : MW w o ns tn kp σ tx cm) (hns : ns ≤ 4) (hW : WS σ) : Wr mX8_endWeek 3 [.ref o] w (AnQ w o tn kp tx cm (endWeekR σ ns)) := by
  intro sz
  refine Ev.ofV [some (.ref o), none, none, none, none, none, none, none] (by decide) (Nat.le_of_ble_eq_true rfl) rfl rfl rfl ?_
  refine v_aload_n dX8_endWeek_0 rfl ?_
  refine v_wV0 oX8_records dX8_endWeek_1 ml_X8_63 (c_records hM hns) hM.1 (by decide) (Nat.le_of_ble_eq_true rfl) (Nat.le_refl _) (Nat.le_refl _) (fun r' w1 hq => ?_)
  obtain ⟨rfl, h1, f1⟩ := hq
  obtain ⟨σ1, es⟩ : ∃ s, s = rcS σ ns := ⟨_, rfl⟩
  rw [← es] at h1
  refine v_eqw h1.self ?_
  have hW1 : WS σ1 := by rw [es]; exact hW.rc
  refine v_iconst (v := nI 0) dX8_endWeek_4 (by decide) ?_
  refine v_istore_n dX8_endWeek_5 (by decide) rfl ?_
  refine v_iconst (v := nI 0) dX8_endWeek_6 (by decide) ?_
  refine v_istore_n dX8_endWeek_7 (by decide) rfl ?_
  have LP8 : ∀ a, a ≤ 8 → V mX8_endWeek 3 0 0 (fun r' w' zz => zz = sz ∧ AnQ w o tn kp tx cm (endWeekR σ ns) r' w') (wu w1 (o + 1) (ia 1 17088 (wkS σ1 (3 * a)))) (sz) (0) (0) [some (.ref o), some (.int (nI (wkN σ1 (3 * a)))), some (.int (nI a)), none, none, none, none, none] [] 8 := by
    refine dn (fun a ha iha => ?_)
    refine v_iload_n dX8_endWeek_8 rfl ?_
    refine v_bipush (v := nI 8) dX8_endWeek_9 (by decide) ?_
    refine v_icmp_geN (tgt := 195) dX8_endWeek_11 (by decide) (by omega) (by omega) (fun b11 => ?_) (fun b11 => ?_)
    ·
      have e8 : a = 8 := by omega
      subst e8
      refine c_ewA h1 (fun w' hm hf => ?_)
      have e : endWeekR σ ns = (nI (wkN σ1 24), rcn ns, upd (upd (agS (wkS σ1 24) 16) 19 (agS (wkS σ1 24) 16 19 + nI (wkN σ1 24))) 17 (agS (wkS σ1 24) 16 17 + nI 1)) := by
        rw [es]
        rfl
      rw [e]
      exact ⟨rfl, AnQ.mk hm (f1.tr hf)⟩
    ·
      refine v_iconst (v := nI 0) dX8_endWeek_14 (by decide) ?_
      refine v_istore_n dX8_endWeek_15 (by decide) rfl ?_
      have LP16 : ∀ b, b ≤ 3 → V mX8_endWeek 3 0 0 (fun r' w' zz => zz = sz ∧ AnQ w o tn kp tx cm (endWeekR σ ns) r' w') (wu w1 (o + 1) (ia 1 17088 (wkS σ1 (3 * a + b)))) (sz) (0) (0) [some (.ref o), some (.int (nI (wkN σ1 (3 * a + b)))), some (.int (nI a)), some (.int (nI b)), none, none, none, none] [] 16 := by
        refine dn (fun b hb ihb => ?_)
        refine v_iload_n dX8_endWeek_16 rfl ?_
        refine v_iconst (v := nI 3) dX8_endWeek_17 (by decide) ?_
        refine v_icmp_geN (tgt := 189) dX8_endWeek_18 (by decide) (by omega) (by omega) (fun b18 => ?_) (fun b18 => ?_)
        ·
          have e8 : b = 3 := by omega
          subst e8
          refine v_iincN dX8_endWeek_189 (by decide) rfl rfl rfl ?_
          refine v_goto (tgt := 8) dX8_endWeek_192 (by decide) ?_
          refine v_drop 3 ?_
          exact iha (by omega)
        ·
          have hw := wk_ok hW1 (3 * a + b) (by omega)
          have cb := c_best (h1.st (wkS σ1 (3 * a + b))) a b ⟨by omega, by omega⟩ (hw.1.1 a (by omega)) (hw.1.2.2.1 _ (hw.1.1 a (by omega)).2) hw.1.2.2.2.1.1 (fun j hj h0 => (hw.1.rw hj h0).2.2.2.2.1)
          have ha4 := (hW1.1 a (by omega)).2
          rw [hw.2 16 (by omega), hw.2 a (by omega), hw.2 (12 + nt (σ1 a)) (by omega)] at cb
          have elim : limW σ1 ((3 * a + b) / 3) = nt (σ1 (12 + nt (σ1 a))) := by
            rw [show (3 * a + b) / 3 = a by omega]
            rfl
          rw [← elim] at cb
          refine v_aload_n dX8_endWeek_21 rfl ?_
          refine v_iload_n dX8_endWeek_22 rfl ?_
          refine v_iload_n dX8_endWeek_23 rfl ?_
          refine u_rV2 oX8_best dX8_endWeek_24 ml_X8_104 cb (h1.st _).1 (by decide) (Nat.le_of_ble_eq_true rfl) (Nat.le_refl _) (Nat.le_refl _) ?_
          cases hb9 : bst (wkS σ1 (3 * a + b)) (3 * a + b) (nt (σ1 16)) (limW σ1 ((3 * a + b) / 3)) 16 with
          | none =>
            have qS : wkS σ1 ((3 * a + b) + 1) = wkS σ1 (3 * a + b) := wkS_N hb9
            have qN : wkN σ1 ((3 * a + b) + 1) = wkN σ1 (3 * a + b) := wkN_N hb9
            refine v_istore dX8_endWeek_27 (by decide) rfl ?_
            refine v_iload dX8_endWeek_29 rfl ?_
            refine v_if_lt (tgt := 183) dX8_endWeek_31 (by decide) (fun b31 => ?_) (fun b31 => absurd (by decide) b31)
            refine v_iincN dX8_endWeek_183 (by decide) rfl rfl rfl ?_
            refine v_goto (tgt := 16) dX8_endWeek_186 (by decide) ?_
            refine v_drop 4 ?_
            refine v_sg qS ?_
            refine v_eqL ?_ (ihb (by omega))
            rw [show 3 * a + (b + 1) = (3 * a + b) + 1 from rfl, qN]
            rfl
          | some k =>
            have hkc := bst_lt hb9
            have hr := hw.1.rw hkc.1 (cand_0 hkc.2)
            have qS : wkS σ1 ((3 * a + b) + 1) = accS (wkS σ1 (3 * a + b)) (3 * a + b) k := wkS_S hb9
            have qN : wkN σ1 ((3 * a + b) + 1) = wkN σ1 (3 * a + b) + 1 := wkN_S hb9
            have hk16 := hkc.1
            refine v_istore dX8_endWeek_27 (by decide) rfl ?_
            refine v_iload dX8_endWeek_29 rfl ?_
            refine v_if_ltN (tgt := 183) dX8_endWeek_31 (by decide) (by omega) ?_
            refine c_ewS h1 (by omega) (by omega) hkc.1 hr ?_
            refine v_iincN dX8_endWeek_183 (by decide) rfl rfl rfl ?_
            refine v_goto (tgt := 16) dX8_endWeek_186 (by decide) ?_
            refine v_sg qS ?_
            refine v_eqL ?_ (ihb (by omega))
            rw [show 3 * a + (b + 1) = (3 * a + b) + 1 from rfl, qN]
            rfl
      exact LP16 0 (Nat.zero_le _)
  refine v_sg (show wkS σ1 (3 * 0) = σ1 from rfl) ?_
  exact LP8 0 (Nat.zero_le _)
