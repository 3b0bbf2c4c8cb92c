def ownP (σ : Nat → Int32) (v p : Nat) : Nat → Bool := fun k => decide (0 ≤ σ (1808 + 65 * k)) && σ (1808 + 65 * k + 1) == nI p && σ (1808 + 65 * k + 2) == nI v
def befO (σ : Nat → Int32) (v p : Nat) : Option Nat := lsO (ownP σ v p) 16
def freP (σ : Nat → Int32) : Nat → Bool := fun k => decide (σ (1808 + 65 * k) < 0)
def dnO (p : Nat → Bool) : Nat → Option Nat
  | 0 => none
  | i + 1 => if p (15 - i) = true then some (15 - i) else dnO p i
theorem dnI_eq (p : Nat → Bool) : ∀ n, dnI p n = oI (dnO p n)
  | 0 => rfl
  | n + 1 => by
    simp only [dnI, dnO]
    split
    · rfl
    · exact dnI_eq p n
theorem dnO_some {p : Nat → Bool} {k : Nat} : ∀ {n}, dnO p n = some k → k < 16 ∧ p k = true
  | 0, h => by simp [dnO] at h
  | n + 1, h => by
    by_cases e : p (15 - n) = true
    · simp only [dnO, if_pos e] at h
      cases h
      exact ⟨by omega, e⟩
    · simp only [dnO, if_neg e] at h
      exact dnO_some h
/-- the rewrite of the number n is laid into place k -/
def rwtS (s : Nat → Int32) (k p v : Nat) (n : Int32) (tx : Nat → Int32) (tn : Nat) : Nat → Int32 := upd (lay (upd (upd (upd (upd (upd s (1808 + 65 * k) n) (1808 + 65 * k + 1) (nI p)) (1808 + 65 * k + 2) (nI v)) (1808 + 65 * k + 3) (nI 0)) (1808 + 65 * k + 4) (nI tn)) tx (1808 + 65 * k + 5) tn) 18 (n + nI 1)
def rwtR (σ : Nat → Int32) (ns : Nat) (tx : Nat → Int32) (tn v p : Nat) : An := if σ 18 = nI 200 then (-3, ns, σ) else
  match befO σ v p with
  | some b => (σ 18, rcn ns, rwtS (gone (rcS σ ns) b) b p v (σ 18) tx tn)
  | none => match dnO (freP σ) 16 with
    | some k => (σ 18, rcn ns, rwtS (rcS σ ns) k p v (σ 18) tx tn)
    | none => (-3, ns, σ)
def rewriteR (σ : Nat → Int32) (ns : Nat) (tx : Nat → Int32) (tn : Nat) (v x y : Int32) : An := if (inB v 9 && (inB x 7 && inB y 2)) = true then (if flt tx tn < 0 then (if 1 + cnt (bl tx) tn ≤ limW σ (nt x) then (if told (sft σ (272 + 64 * (3 * nt x + nt y) + 4)) tx (ln σ (3 * nt x + nt y)) tn = true then (-4, ns, σ) else rwtR σ ns tx tn (nt v) (3 * nt x + nt y)) else (-6, ns, σ)) else (-100 - flt tx tn, ns, σ)) else (-1, ns, σ)
theorem gone_lo {σ : Nat → Int32} {k q : Nat} (h : q < 32) : gone σ k q = σ q := by
  unfold gone
  rw [up_ne _ _ (by omega)]
  unfold gv
  rw [if_neg (by omega)]
set_option maxHeartbeats 1000000 in
set_option maxRecDepth 100000 in
theorem c_rewrite0 {w : Wd} {o ns tn : Nat} {kp : Int32} {σ tx cm : Nat → Int32} (hM : MW w o ns tn kp σ tx cm) (v x y : Int32) (h : (inB v 9 && (inB x 7 && inB y 2)) = false) : Wr mX8_rewrite 2 [.ref o, .int v, .int x, .int y] w (AnQ w o tn kp tx cm (rewriteR σ ns tx tn v x y)) := by
  intro sz
  refine Ev.ofV [some (.ref o), some (.int v), some (.int x), some (.int y), none, none, none, none] (by decide) (Nat.le_of_ble_eq_true rfl) rfl rfl rfl ?_
  refine v_iload_n dX8_rewrite_0 rfl ?_
  refine v_iconst (v := nI 0) dX8_rewrite_1 (by decide) ?_
  refine v_bipush (v := nI 9) dX8_rewrite_2 (by decide) ?_
  refine u_rS3 oX8_in dX8_rewrite_4 ml_X8_59 (c_inB v 9) (by decide) (Nat.le_of_ble_eq_true rfl) (Nat.le_refl _) (Nat.le_refl _) ?_
  refine v_if_eqB (tgt := 18) dX8_rewrite_7 (by decide) (fun b7 => ?_) (fun b7 => ?_)
  ·
    refine v_iconst (v := -1) dX8_rewrite_18 (by decide) ?_
    refine v_iret dX8_rewrite_19 rfl (Nat.le_refl _) (Nat.le_refl _) ?_
    have e : rewriteR σ ns tx tn v x y = (-1, ns, σ) := by
      unfold rewriteR
      rw [if_neg (by rw [h]; decide)]
    rw [e]
    exact ⟨rfl, rfl, hM, frO.rf o w⟩
  ·
    refine v_iload_n dX8_rewrite_10 rfl ?_
    refine v_iload_n dX8_rewrite_11 rfl ?_
    refine u_rS2 oX8_isPair dX8_rewrite_12 ml_X8_72 (c_isPair x y) (by decide) (Nat.le_of_ble_eq_true rfl) (Nat.le_refl _) (Nat.le_refl _) ?_
    refine v_if_neB (tgt := 20) dX8_rewrite_15 (by decide) (fun b15 => ?_) (fun b15 => ?_)
    ·
      exact absurd h (by rw [b7, b15]; decide)
    ·
      refine v_iconst (v := -1) dX8_rewrite_18 (by decide) ?_
      refine v_iret dX8_rewrite_19 rfl (Nat.le_refl _) (Nat.le_refl _) ?_
      have e : rewriteR σ ns tx tn v x y = (-1, ns, σ) := by
        unfold rewriteR
        rw [if_neg (by rw [h]; decide)]
      rw [e]
      exact ⟨rfl, rfl, hM, frO.rf o w⟩
set_option maxHeartbeats 1000000 in
set_option maxRecDepth 100000 in
theorem c_rewriteA {w : Wd} {o ns tn : Nat} {kp : Int32} {σ tx cm : Nat → Int32} (hM : MW w o ns tn kp σ tx cm) (hns : ns ≤ 4) (hW : WS σ) (ht : tn ≤ 60) (c a b : Nat) (hc : c < 10) (ha : a < 8) (hb : b < 3) (k : Nat) (hq : befO σ c (3 * a + b) = some k) : Wr mX8_rewrite 2 [.ref o, .int (nI c), .int (nI a), .int (nI b)] w (AnQ w o tn kp tx cm (rewriteR σ ns tx tn (nI c) (nI a) (nI b))) := by
  intro sz
  refine Ev.ofV [some (.ref o), some (.int (nI c)), some (.int (nI a)), some (.int (nI b)), none, none, none, none] (by decide) (Nat.le_of_ble_eq_true rfl) rfl rfl rfl ?_
  have hgc : inB (nI c) 9 = true := by rw [inB_nI (by omega) (by omega)]; simp; omega
  have hgp : (inB (nI a) 7 && inB (nI b) 2) = true := by rw [inB_nI (by omega) (by omega), inB_nI (by omega) (by omega)]; simp; omega
  have hgg : (inB (nI c) 9 && (inB (nI a) 7 && inB (nI b) 2)) = true := by rw [hgc, hgp]; rfl
  have hN := hW.2.2.2.2.1.2
  have co : Rd mX8_own 1 [.ref o, .int (nI c), .int (nI (3 * a + b))] w (some (.int (oI (befO σ c (3 * a + b))))) := by
    have c0 := c_own hM c (3 * a + b)
    rw [lst_eq] at c0
    exact c0
  rw [hq] at co
  have co : Rd mX8_own 1 [.ref o, .int (nI c), .int (nI (3 * a + b))] w (some (.int (nI k))) := co
  have hk : k < 16 := (lsO_some hq).1
  refine v_iload_n dX8_rewrite_0 rfl ?_
  refine v_iconst (v := nI 0) dX8_rewrite_1 (by decide) ?_
  refine v_bipush (v := nI 9) dX8_rewrite_2 (by decide) ?_
  refine u_rS3 oX8_in dX8_rewrite_4 ml_X8_59 (c_inB (nI c) 9) (by decide) (Nat.le_of_ble_eq_true rfl) (Nat.le_refl _) (Nat.le_refl _) ?_
  refine v_if_eqB (tgt := 18) dX8_rewrite_7 (by decide) (fun b7 => ?_) (fun b7 => ?_)
  ·
    exact absurd hgc (by rw [b7]; decide)
  ·
    refine v_iload_n dX8_rewrite_10 rfl ?_
    refine v_iload_n dX8_rewrite_11 rfl ?_
    refine u_rS2 oX8_isPair dX8_rewrite_12 ml_X8_72 (c_isPair (nI a) (nI b)) (by decide) (Nat.le_of_ble_eq_true rfl) (Nat.le_refl _) (Nat.le_refl _) ?_
    refine v_if_neB (tgt := 20) dX8_rewrite_15 (by decide) (fun b15 => ?_) (fun b15 => ?_)
    ·
      refine v_aload_n dX8_rewrite_20 rfl ?_
      refine u_rV0 oX8_fault dX8_rewrite_21 ml_X8_78 (c_fault hM ht) hM.1 (by decide) (Nat.le_of_ble_eq_true rfl) (Nat.le_refl _) (Nat.le_refl _) ?_
      refine v_if_lt (tgt := 35) dX8_rewrite_24 (by decide) (fun b24 => ?_) (fun b24 => ?_)
      ·
        refine v_aload_n dX8_rewrite_35 rfl ?_
        refine u_rV0 oX8_wordsTold dX8_rewrite_36 ml_X8_82 (c_wordsTold hM ht) hM.1 (by decide) (Nat.le_of_ble_eq_true rfl) (Nat.le_refl _) (Nat.le_refl _) ?_
        refine v_aload_n dX8_rewrite_39 rfl ?_
        refine v_get 0 dX8_rewrite_40 FTX8 (by decide) rfl fl_X8_7 hM.1 rfl ?_
        refine v_bipush (v := nI 12) dX8_rewrite_43 (by decide) ?_
        refine v_aload_n dX8_rewrite_45 rfl ?_
        refine v_get 0 dX8_rewrite_46 FTX8 (by decide) rfl fl_X8_7 hM.1 rfl ?_
        refine v_iload_n dX8_rewrite_49 rfl ?_
        refine v_ialdN _ dX8_rewrite_50 hM.2.1 rfl (by omega) (by decide) (hW.1 a ha).1 ?_
        refine v_iaddN dX8_rewrite_51 ?_
        refine v_ialdN _ dX8_rewrite_52 hM.2.1 rfl (by have := (hW.1 a ha).2; omega) (by decide) (hW.2.2.1 _ (hW.1 a ha).2).1.1 ?_
        refine v_icmp_leN (tgt := 59) dX8_rewrite_53 (by decide) (by have := cnt_le (bl tx) tn; omega) (by have := (hW.2.2.1 _ (hW.1 a ha).2).1.2; omega) (fun b53 => ?_) (fun b53 => ?_)
        ·
          have b53 : 1 + cnt (bl tx) tn ≤ limW σ a := b53
          refine v_iload_n dX8_rewrite_59 rfl ?_
          refine v_iload_n dX8_rewrite_60 rfl ?_
          refine u_rS2 oX8_rowOf dX8_rewrite_61 ml_X8_28 (c_rowOf a b) (by decide) (Nat.le_of_ble_eq_true rfl) (Nat.le_refl _) (Nat.le_refl _) ?_
          refine v_istore dX8_rewrite_64 (by decide) rfl ?_
          refine v_aload_n dX8_rewrite_66 rfl ?_
          refine v_iload dX8_rewrite_67 rfl ?_
          refine v_iconst (v := nI 4) dX8_rewrite_69 (by decide) ?_
          refine v_iaddN dX8_rewrite_70 ?_
          refine v_aload_n dX8_rewrite_71 rfl ?_
          refine v_get 0 dX8_rewrite_72 FTX8 (by decide) rfl fl_X8_7 hM.1 rfl ?_
          refine v_iload dX8_rewrite_75 rfl ?_
          refine v_ialdN _ dX8_rewrite_77 hM.2.1 rfl (by omega) (by decide) ((hW.2.2.2.2.2.1 (3 * a + b) (by omega)).1).1 ?_
          refine u_rV2 oX8_isTold dX8_rewrite_78 ml_X8_85 (c_isTold hM (272 + 64 * (3 * a + b) + 4) (ln σ (3 * a + b)) (by omega) (by have := ((hW.2.2.2.2.2.1 (3 * a + b) (by omega)).1).2; unfold ln; omega) ht) hM.1 (by decide) (Nat.le_of_ble_eq_true rfl) (Nat.le_refl _) (Nat.le_refl _) ?_
          refine v_if_eqB (tgt := 87) dX8_rewrite_81 (by decide) (fun b81 => ?_) (fun b81 => ?_)
          ·
            refine v_aload_n dX8_rewrite_87 rfl ?_
            refine v_iload_n dX8_rewrite_88 rfl ?_
            refine v_iconst (v := nI 3) dX8_rewrite_89 (by decide) ?_
            refine v_iload_n dX8_rewrite_90 rfl ?_
            refine v_imulN dX8_rewrite_91 ?_
            refine v_iload_n dX8_rewrite_92 rfl ?_
            refine v_iaddN dX8_rewrite_93 ?_
            refine u_rV2 oX8_own dX8_rewrite_94 ml_X8_92 co hM.1 (by decide) (Nat.le_of_ble_eq_true rfl) (Nat.le_refl _) (Nat.le_refl _) ?_
            refine v_istore dX8_rewrite_97 (by decide) rfl ?_
            refine v_iload dX8_rewrite_99 rfl ?_
            refine v_if_ltN (tgt := 109) dX8_rewrite_101 (by decide) (by omega) ?_
            refine v_iload dX8_rewrite_104 rfl ?_
            refine v_goto (tgt := 113) dX8_rewrite_106 (by decide) ?_
            refine v_istore dX8_rewrite_113 (by decide) rfl ?_
            refine v_iload dX8_rewrite_115 rfl ?_
            refine v_if_ltN (tgt := 133) dX8_rewrite_117 (by decide) (by omega) ?_
            refine v_aload_n dX8_rewrite_120 rfl ?_
            refine v_get 0 dX8_rewrite_121 FTX8 (by decide) rfl fl_X8_7 hM.1 rfl ?_
            refine v_bipush (v := nI 18) dX8_rewrite_124 (by decide) ?_
            refine v_ialdN _ dX8_rewrite_126 hM.2.1 rfl (by omega) (by decide) hW.2.2.2.2.1.1 ?_
            refine v_sipush (v := nI 200) dX8_rewrite_127 (by decide) ?_
            refine v_icmp_neN (tgt := 136) dX8_rewrite_130 (by decide) (by have := hW.2.2.2.2.1.2; omega) (by decide) (fun b130 => ?_) (fun b130 => ?_)
            ·
              have h200 : ¬ σ 18 = nI 200 := by
                intro h9
                rw [hW.2.2.2.2.1.1] at h9
                exact b130 (nI_inj (by have := hW.2.2.2.2.1.2; omega) (by decide) h9)
              refine v_aload_n dX8_rewrite_136 rfl ?_
              refine v_wV0 oX8_records dX8_rewrite_137 ml_X8_63 (c_records hM hns) hM.1 (by decide) (Nat.le_of_ble_eq_true rfl) (Nat.le_refl _) (Nat.le_refl _) (fun r' w1 hq => ?_)
              obtain ⟨rfl, h1, f1⟩ := hq
              obtain ⟨σ1, es⟩ : ∃ s, s = rcS σ ns := ⟨_, rfl⟩
              rw [← es] at h1
              refine v_eqw h1.self ?_
              refine v_iload dX8_rewrite_140 rfl ?_
              refine v_if_ltN (tgt := 151) dX8_rewrite_142 (by decide) (by omega) ?_
              refine v_aload_n dX8_rewrite_145 rfl ?_
              refine v_iload dX8_rewrite_146 rfl ?_
              refine n_wV1 oX8_goes dX8_rewrite_148 ml_X8_98 (c_goes (h1.st _) k hk) (h1.st _).1 (by decide) (Nat.le_of_ble_eq_true rfl) (Nat.le_refl _) (Nat.le_refl _) ?_
              refine v_eqw (wu_wu _ _ _ _).symm ?_
              have h18 : gone σ1 k 18 = σ 18 := by rw [gone_lo (by omega), es]; exact rcS_0 (by omega)
              refine v_iload dX8_rewrite_151 rfl ?_
              refine u_rS1 oX8_paper dX8_rewrite_153 ml_X8_49 (c_paper k) (by decide) (Nat.le_of_ble_eq_true rfl) (Nat.le_refl _) (Nat.le_refl _) ?_
              refine v_istore dX8_rewrite_156 (by decide) rfl ?_
              refine v_aload_n dX8_rewrite_158 rfl ?_
              refine v_get 0 dX8_rewrite_159 FTX8 (by decide) rfl fl_X8_7 (h1.st _).1 rfl ?_
              refine v_iload dX8_rewrite_162 rfl ?_
              refine v_aload_n dX8_rewrite_164 rfl ?_
              refine v_get 0 dX8_rewrite_165 FTX8 (by decide) rfl fl_X8_7 (h1.st _).1 rfl ?_
              refine v_bipush (v := nI 18) dX8_rewrite_168 (by decide) ?_
              refine v_ialdE _ dX8_rewrite_170 (h1.st _).2.1 rfl (by omega) (by decide) h18 ?_
              refine v_iast _ dX8_rewrite_171 (h1.st _).2.1 rfl (by omega) (by decide) ?_
              refine v_eqw (wu_wu _ _ _ _).symm ?_
              refine v_aload_n dX8_rewrite_172 rfl ?_
              refine v_get 0 dX8_rewrite_173 FTX8 (by decide) rfl fl_X8_7 (h1.st _).1 rfl ?_
              refine v_iload dX8_rewrite_176 rfl ?_
              refine v_iconst (v := nI 1) dX8_rewrite_178 (by decide) ?_
              refine v_iaddN dX8_rewrite_179 ?_
              refine v_iconst (v := nI 3) dX8_rewrite_180 (by decide) ?_
              refine v_iload_n dX8_rewrite_181 rfl ?_
              refine v_imulN dX8_rewrite_182 ?_
              refine v_iload_n dX8_rewrite_183 rfl ?_
              refine v_iaddN dX8_rewrite_184 ?_
              refine v_iast _ dX8_rewrite_185 (h1.st _).2.1 rfl (by omega) (by decide) ?_
              refine v_eqw (wu_wu _ _ _ _).symm ?_
              refine v_aload_n dX8_rewrite_186 rfl ?_
              refine v_get 0 dX8_rewrite_187 FTX8 (by decide) rfl fl_X8_7 (h1.st _).1 rfl ?_
              refine v_iload dX8_rewrite_190 rfl ?_
              refine v_iconst (v := nI 2) dX8_rewrite_192 (by decide) ?_
              refine v_iaddN dX8_rewrite_193 ?_
              refine v_iload_n dX8_rewrite_194 rfl ?_
              refine v_iast _ dX8_rewrite_195 (h1.st _).2.1 rfl (by omega) (by decide) ?_
              refine v_eqw (wu_wu _ _ _ _).symm ?_
              refine v_aload_n dX8_rewrite_196 rfl ?_
              refine v_get 0 dX8_rewrite_197 FTX8 (by decide) rfl fl_X8_7 (h1.st _).1 rfl ?_
              refine v_iload dX8_rewrite_200 rfl ?_
              refine v_iconst (v := nI 3) dX8_rewrite_202 (by decide) ?_
              refine v_iaddN dX8_rewrite_203 ?_
              refine v_iconst (v := nI 0) dX8_rewrite_204 (by decide) ?_
              refine v_iast _ dX8_rewrite_205 (h1.st _).2.1 rfl (by omega) (by decide) ?_
              refine v_eqw (wu_wu _ _ _ _).symm ?_
              refine v_aload_n dX8_rewrite_206 rfl ?_
              refine v_get 0 dX8_rewrite_207 FTX8 (by decide) rfl fl_X8_7 (h1.st _).1 rfl ?_
              refine v_iload dX8_rewrite_210 rfl ?_
              refine v_iconst (v := nI 4) dX8_rewrite_212 (by decide) ?_
              refine v_iaddN dX8_rewrite_213 ?_
              refine v_aload_n dX8_rewrite_214 rfl ?_
              refine v_get 4 dX8_rewrite_215 FTX8 (by decide) rfl fl_X8_56 (h1.st _).1 rfl ?_
              refine v_iast _ dX8_rewrite_218 (h1.st _).2.1 rfl (by omega) (by decide) ?_
              refine v_eqw (wu_wu _ _ _ _).symm ?_
              refine v_aload_n dX8_rewrite_219 rfl ?_
              refine v_iload dX8_rewrite_220 rfl ?_
              refine v_iconst (v := nI 5) dX8_rewrite_222 (by decide) ?_
              refine v_iaddN dX8_rewrite_223 ?_
              refine n_wV1 oX8_lays dX8_rewrite_224 ml_X8_88 (c_lays (h1.st _) (1808 + 65 * k + 5) (by omega) ht) (h1.st _).1 (by decide) (Nat.le_of_ble_eq_true rfl) (Nat.le_refl _) (Nat.le_refl _) ?_
              refine v_eqw (wu_wu _ _ _ _).symm ?_
              refine v_aload_n dX8_rewrite_227 rfl ?_
              refine v_get 0 dX8_rewrite_228 FTX8 (by decide) rfl fl_X8_7 (h1.st _).1 rfl ?_
              refine v_bipush (v := nI 18) dX8_rewrite_231 (by decide) ?_
              refine v_dup2 dX8_rewrite_233 rfl rfl ?_
              refine v_ialdE _ dX8_rewrite_234 (h1.st _).2.1 rfl (by omega) (by decide) ((lay_out (by omega)).trans ((up_ne _ _ (by omega)).trans ((up_ne _ _ (by omega)).trans ((up_ne _ _ (by omega)).trans ((up_ne _ _ (by omega)).trans ((up_ne _ _ (by omega)).trans h18)))))) ?_
              refine v_iconst (v := nI 1) dX8_rewrite_235 (by decide) ?_
              refine v_iadd dX8_rewrite_236 ?_
              refine v_iast _ dX8_rewrite_237 (h1.st _).2.1 rfl (by omega) (by decide) ?_
              refine v_eqw (wu_wu _ _ _ _).symm ?_
              refine v_aload_n dX8_rewrite_238 rfl ?_
              refine v_get 0 dX8_rewrite_239 FTX8 (by decide) rfl fl_X8_7 (h1.st _).1 rfl ?_
              refine v_iload dX8_rewrite_242 rfl ?_
              refine v_ialdE _ dX8_rewrite_244 (h1.st _).2.1 rfl (by omega) (by decide) ((up_ne _ _ (by omega)).trans ((lay_out (by omega)).trans ((up_ne _ _ (by omega)).trans ((up_ne _ _ (by omega)).trans ((up_ne _ _ (by omega)).trans ((up_ne _ _ (by omega)).trans (up_eq _ _ _))))))) ?_
              refine v_iret dX8_rewrite_245 rfl (Nat.le_refl _) (Nat.le_refl _) ?_
              have e : rewriteR σ ns tx tn (nI c) (nI a) (nI b) = (σ 18, rcn ns, rwtS (gone σ1 k) k (3 * a + b) c (σ 18) tx tn) := by
                subst es
                unfold rewriteR
                rw [if_pos hgg, nt_nI (n := a) (by omega), nt_nI (n := b) (by omega), nt_nI (n := c) (by omega), if_pos b24, if_pos b53, if_neg (by rw [b81]; decide)]
                unfold rwtR
                rw [if_neg h200]
                rw [hq]
              rw [e]
              exact ⟨rfl, AnQ.mk (h1.st _) (f1.wu _ (by omega) (by omega))⟩
            ·
              refine v_bipush (v := -3) dX8_rewrite_133 (by decide) ?_
              refine v_iret dX8_rewrite_135 rfl (Nat.le_refl _) (Nat.le_refl _) ?_
              have e : rewriteR σ ns tx tn (nI c) (nI a) (nI b) = (-3, ns, σ) := by
                unfold rewriteR
                rw [if_pos hgg, nt_nI (n := a) (by omega), nt_nI (n := b) (by omega), nt_nI (n := c) (by omega), if_pos b24, if_pos b53, if_neg (by rw [b81]; decide)]
                unfold rwtR
                rw [if_pos (by rw [hW.2.2.2.2.1.1, b130])]
              rw [e]
              exact ⟨rfl, rfl, hM, frO.rf o w⟩
          ·
            refine v_bipush (v := -4) dX8_rewrite_84 (by decide) ?_
            refine v_iret dX8_rewrite_86 rfl (Nat.le_refl _) (Nat.le_refl _) ?_
            have e : rewriteR σ ns tx tn (nI c) (nI a) (nI b) = (-4, ns, σ) := by
              unfold rewriteR
              rw [if_pos hgg, nt_nI (n := a) (by omega), nt_nI (n := b) (by omega), nt_nI (n := c) (by omega), if_pos b24, if_pos b53, if_pos b81]
            rw [e]
            exact ⟨rfl, rfl, hM, frO.rf o w⟩
        ·
          have b53 : ¬ 1 + cnt (bl tx) tn ≤ limW σ a := b53
          refine v_bipush (v := -6) dX8_rewrite_56 (by decide) ?_
          refine v_iret dX8_rewrite_58 rfl (Nat.le_refl _) (Nat.le_refl _) ?_
          have e : rewriteR σ ns tx tn (nI c) (nI a) (nI b) = (-6, ns, σ) := by
            unfold rewriteR
            rw [if_pos hgg, nt_nI (n := a) (by omega), nt_nI (n := b) (by omega), nt_nI (n := c) (by omega), if_pos b24, if_neg b53]
          rw [e]
          exact ⟨rfl, rfl, hM, frO.rf o w⟩
      ·
        refine v_bipush (v := -100) dX8_rewrite_27 (by decide) ?_
        refine v_aload_n dX8_rewrite_29 rfl ?_
        refine u_rV0 oX8_fault dX8_rewrite_30 ml_X8_78 (c_fault hM ht) hM.1 (by decide) (Nat.le_of_ble_eq_true rfl) (Nat.le_refl _) (Nat.le_refl _) ?_
        refine v_isub dX8_rewrite_33 ?_
        refine v_iret dX8_rewrite_34 rfl (Nat.le_refl _) (Nat.le_refl _) ?_
        have e : rewriteR σ ns tx tn (nI c) (nI a) (nI b) = (-100 - flt tx tn, ns, σ) := by
          unfold rewriteR
          rw [if_pos hgg, nt_nI (n := a) (by omega), nt_nI (n := b) (by omega), nt_nI (n := c) (by omega), if_neg b24]
        rw [e]
        exact ⟨rfl, rfl, hM, frO.rf o w⟩
    ·
      exact absurd hgp (by rw [b15]; decide)
set_option maxHeartbeats 1000000 in
set_option maxRecDepth 100000 in
theorem c_rewriteB {w : Wd} {o ns tn : Nat} {kp : Int32} {σ tx cm : Nat → Int32} (hM : MW w o ns tn kp σ tx cm) (hns : ns ≤ 4) (hW : WS σ) (ht : tn ≤ 60) (c a b : Nat) (hc : c < 10) (ha : a < 8) (hb : b < 3) (k : Nat) (hq : befO σ c (3 * a + b) = none) (hf : dnO (freP σ) 16 = some k) : Wr mX8_rewrite 2 [.ref o, .int (nI c), .int (nI a), .int (nI b)] w (AnQ w o tn kp tx cm (rewriteR σ ns tx tn (nI c) (nI a) (nI b))) := by
  intro sz
  refine Ev.ofV [some (.ref o), some (.int (nI c)), some (.int (nI a)), some (.int (nI b)), none, none, none, none] (by decide) (Nat.le_of_ble_eq_true rfl) rfl rfl rfl ?_
  have hgc : inB (nI c) 9 = true := by rw [inB_nI (by omega) (by omega)]; simp; omega
  have hgp : (inB (nI a) 7 && inB (nI b) 2) = true := by rw [inB_nI (by omega) (by omega), inB_nI (by omega) (by omega)]; simp; omega
  have hgg : (inB (nI c) 9 && (inB (nI a) 7 && inB (nI b) 2)) = true := by rw [hgc, hgp]; rfl
  have hN := hW.2.2.2.2.1.2
  have co : Rd mX8_own 1 [.ref o, .int (nI c), .int (nI (3 * a + b))] w (some (.int (oI (befO σ c (3 * a + b))))) := by
    have c0 := c_own hM c (3 * a + b)
    rw [lst_eq] at c0
    exact c0
  rw [hq] at co
  have co : Rd mX8_own 1 [.ref o, .int (nI c), .int (nI (3 * a + b))] w (some (.int (-1))) := co
  have cf : Rd mX8_free 1 [.ref o] w (some (.int (oI (dnO (freP σ) 16)))) := by
    have c0 := c_free hM
    rw [dnI_eq] at c0
    exact c0
  rw [hf] at cf
  have cf : Rd mX8_free 1 [.ref o] w (some (.int (nI k))) := cf
  have hk : k < 16 := (dnO_some hf).1
  refine v_iload_n dX8_rewrite_0 rfl ?_
  refine v_iconst (v := nI 0) dX8_rewrite_1 (by decide) ?_
  refine v_bipush (v := nI 9) dX8_rewrite_2 (by decide) ?_
  refine u_rS3 oX8_in dX8_rewrite_4 ml_X8_59 (c_inB (nI c) 9) (by decide) (Nat.le_of_ble_eq_true rfl) (Nat.le_refl _) (Nat.le_refl _) ?_
  refine v_if_eqB (tgt := 18) dX8_rewrite_7 (by decide) (fun b7 => ?_) (fun b7 => ?_)
  ·
    exact absurd hgc (by rw [b7]; decide)
  ·
    refine v_iload_n dX8_rewrite_10 rfl ?_
    refine v_iload_n dX8_rewrite_11 rfl ?_
    refine u_rS2 oX8_isPair dX8_rewrite_12 ml_X8_72 (c_isPair (nI a) (nI b)) (by decide) (Nat.le_of_ble_eq_true rfl) (Nat.le_refl _) (Nat.le_refl _) ?_
    refine v_if_neB (tgt := 20) dX8_rewrite_15 (by decide) (fun b15 => ?_) (fun b15 => ?_)
    ·
      refine v_aload_n dX8_rewrite_20 rfl ?_
      refine u_rV0 oX8_fault dX8_rewrite_21 ml_X8_78 (c_fault hM ht) hM.1 (by decide) (Nat.le_of_ble_eq_true rfl) (Nat.le_refl _) (Nat.le_refl _) ?_
      refine v_if_lt (tgt := 35) dX8_rewrite_24 (by decide) (fun b24 => ?_) (fun b24 => ?_)
      ·
        refine v_aload_n dX8_rewrite_35 rfl ?_
        refine u_rV0 oX8_wordsTold dX8_rewrite_36 ml_X8_82 (c_wordsTold hM ht) hM.1 (by decide) (Nat.le_of_ble_eq_true rfl) (Nat.le_refl _) (Nat.le_refl _) ?_
        refine v_aload_n dX8_rewrite_39 rfl ?_
        refine v_get 0 dX8_rewrite_40 FTX8 (by decide) rfl fl_X8_7 hM.1 rfl ?_
        refine v_bipush (v := nI 12) dX8_rewrite_43 (by decide) ?_
        refine v_aload_n dX8_rewrite_45 rfl ?_
        refine v_get 0 dX8_rewrite_46 FTX8 (by decide) rfl fl_X8_7 hM.1 rfl ?_
        refine v_iload_n dX8_rewrite_49 rfl ?_
        refine v_ialdN _ dX8_rewrite_50 hM.2.1 rfl (by omega) (by decide) (hW.1 a ha).1 ?_
        refine v_iaddN dX8_rewrite_51 ?_
        refine v_ialdN _ dX8_rewrite_52 hM.2.1 rfl (by have := (hW.1 a ha).2; omega) (by decide) (hW.2.2.1 _ (hW.1 a ha).2).1.1 ?_
        refine v_icmp_leN (tgt := 59) dX8_rewrite_53 (by decide) (by have := cnt_le (bl tx) tn; omega) (by have := (hW.2.2.1 _ (hW.1 a ha).2).1.2; omega) (fun b53 => ?_) (fun b53 => ?_)
        ·
          have b53 : 1 + cnt (bl tx) tn ≤ limW σ a := b53
          refine v_iload_n dX8_rewrite_59 rfl ?_
          refine v_iload_n dX8_rewrite_60 rfl ?_
          refine u_rS2 oX8_rowOf dX8_rewrite_61 ml_X8_28 (c_rowOf a b) (by decide) (Nat.le_of_ble_eq_true rfl) (Nat.le_refl _) (Nat.le_refl _) ?_
          refine v_istore dX8_rewrite_64 (by decide) rfl ?_
          refine v_aload_n dX8_rewrite_66 rfl ?_
          refine v_iload dX8_rewrite_67 rfl ?_
          refine v_iconst (v := nI 4) dX8_rewrite_69 (by decide) ?_
          refine v_iaddN dX8_rewrite_70 ?_
          refine v_aload_n dX8_rewrite_71 rfl ?_
          refine v_get 0 dX8_rewrite_72 FTX8 (by decide) rfl fl_X8_7 hM.1 rfl ?_
          refine v_iload dX8_rewrite_75 rfl ?_
          refine v_ialdN _ dX8_rewrite_77 hM.2.1 rfl (by omega) (by decide) ((hW.2.2.2.2.2.1 (3 * a + b) (by omega)).1).1 ?_
          refine u_rV2 oX8_isTold dX8_rewrite_78 ml_X8_85 (c_isTold hM (272 + 64 * (3 * a + b) + 4) (ln σ (3 * a + b)) (by omega) (by have := ((hW.2.2.2.2.2.1 (3 * a + b) (by omega)).1).2; unfold ln; omega) ht) hM.1 (by decide) (Nat.le_of_ble_eq_true rfl) (Nat.le_refl _) (Nat.le_refl _) ?_
          refine v_if_eqB (tgt := 87) dX8_rewrite_81 (by decide) (fun b81 => ?_) (fun b81 => ?_)
          ·
            refine v_aload_n dX8_rewrite_87 rfl ?_
            refine v_iload_n dX8_rewrite_88 rfl ?_
            refine v_iconst (v := nI 3) dX8_rewrite_89 (by decide) ?_
            refine v_iload_n dX8_rewrite_90 rfl ?_
            refine v_imulN dX8_rewrite_91 ?_
            refine v_iload_n dX8_rewrite_92 rfl ?_
            refine v_iaddN dX8_rewrite_93 ?_
            refine u_rV2 oX8_own dX8_rewrite_94 ml_X8_92 co hM.1 (by decide) (Nat.le_of_ble_eq_true rfl) (Nat.le_refl _) (Nat.le_refl _) ?_
            refine v_istore dX8_rewrite_97 (by decide) rfl ?_
            refine v_iload dX8_rewrite_99 rfl ?_
            refine v_if_lt (tgt := 109) dX8_rewrite_101 (by decide) (fun b101 => ?_) (fun b101 => ?_)
            ·
              refine v_aload_n dX8_rewrite_109 rfl ?_
              refine u_rV0 oX8_free dX8_rewrite_110 ml_X8_95 cf hM.1 (by decide) (Nat.le_of_ble_eq_true rfl) (Nat.le_refl _) (Nat.le_refl _) ?_
              refine v_istore dX8_rewrite_113 (by decide) rfl ?_
              refine v_iload dX8_rewrite_115 rfl ?_
              refine v_if_ltN (tgt := 133) dX8_rewrite_117 (by decide) (by omega) ?_
              refine v_aload_n dX8_rewrite_120 rfl ?_
              refine v_get 0 dX8_rewrite_121 FTX8 (by decide) rfl fl_X8_7 hM.1 rfl ?_
              refine v_bipush (v := nI 18) dX8_rewrite_124 (by decide) ?_
              refine v_ialdN _ dX8_rewrite_126 hM.2.1 rfl (by omega) (by decide) hW.2.2.2.2.1.1 ?_
              refine v_sipush (v := nI 200) dX8_rewrite_127 (by decide) ?_
              refine v_icmp_neN (tgt := 136) dX8_rewrite_130 (by decide) (by have := hW.2.2.2.2.1.2; omega) (by decide) (fun b130 => ?_) (fun b130 => ?_)
              ·
                have h200 : ¬ σ 18 = nI 200 := by
                  intro h9
                  rw [hW.2.2.2.2.1.1] at h9
                  exact b130 (nI_inj (by have := hW.2.2.2.2.1.2; omega) (by decide) h9)
                refine v_aload_n dX8_rewrite_136 rfl ?_
                refine v_wV0 oX8_records dX8_rewrite_137 ml_X8_63 (c_records hM hns) hM.1 (by decide) (Nat.le_of_ble_eq_true rfl) (Nat.le_refl _) (Nat.le_refl _) (fun r' w1 hq => ?_)
                obtain ⟨rfl, h1, f1⟩ := hq
                obtain ⟨σ1, es⟩ : ∃ s, s = rcS σ ns := ⟨_, rfl⟩
                rw [← es] at h1
                refine v_eqw h1.self ?_
                have h18 : σ1 18 = σ 18 := by rw [es]; exact rcS_0 (by omega)
                refine v_iload dX8_rewrite_140 rfl ?_
                refine v_if_lt (tgt := 151) dX8_rewrite_142 (by decide) (fun b142 => ?_) (fun b142 => ?_)
                ·
                  refine v_iload dX8_rewrite_151 rfl ?_
                  refine u_rS1 oX8_paper dX8_rewrite_153 ml_X8_49 (c_paper k) (by decide) (Nat.le_of_ble_eq_true rfl) (Nat.le_refl _) (Nat.le_refl _) ?_
                  refine v_istore dX8_rewrite_156 (by decide) rfl ?_
                  refine v_aload_n dX8_rewrite_158 rfl ?_
                  refine v_get 0 dX8_rewrite_159 FTX8 (by decide) rfl fl_X8_7 (h1.st _).1 rfl ?_
                  refine v_iload dX8_rewrite_162 rfl ?_
                  refine v_aload_n dX8_rewrite_164 rfl ?_
                  refine v_get 0 dX8_rewrite_165 FTX8 (by decide) rfl fl_X8_7 (h1.st _).1 rfl ?_
                  refine v_bipush (v := nI 18) dX8_rewrite_168 (by decide) ?_
                  refine v_ialdE _ dX8_rewrite_170 (h1.st _).2.1 rfl (by omega) (by decide) h18 ?_
                  refine v_iast _ dX8_rewrite_171 (h1.st _).2.1 rfl (by omega) (by decide) ?_
                  refine v_eqw (wu_wu _ _ _ _).symm ?_
                  refine v_aload_n dX8_rewrite_172 rfl ?_
                  refine v_get 0 dX8_rewrite_173 FTX8 (by decide) rfl fl_X8_7 (h1.st _).1 rfl ?_
                  refine v_iload dX8_rewrite_176 rfl ?_
                  refine v_iconst (v := nI 1) dX8_rewrite_178 (by decide) ?_
                  refine v_iaddN dX8_rewrite_179 ?_
                  refine v_iconst (v := nI 3) dX8_rewrite_180 (by decide) ?_
                  refine v_iload_n dX8_rewrite_181 rfl ?_
                  refine v_imulN dX8_rewrite_182 ?_
                  refine v_iload_n dX8_rewrite_183 rfl ?_
                  refine v_iaddN dX8_rewrite_184 ?_
                  refine v_iast _ dX8_rewrite_185 (h1.st _).2.1 rfl (by omega) (by decide) ?_
                  refine v_eqw (wu_wu _ _ _ _).symm ?_
                  refine v_aload_n dX8_rewrite_186 rfl ?_
                  refine v_get 0 dX8_rewrite_187 FTX8 (by decide) rfl fl_X8_7 (h1.st _).1 rfl ?_
                  refine v_iload dX8_rewrite_190 rfl ?_
                  refine v_iconst (v := nI 2) dX8_rewrite_192 (by decide) ?_
                  refine v_iaddN dX8_rewrite_193 ?_
                  refine v_iload_n dX8_rewrite_194 rfl ?_
                  refine v_iast _ dX8_rewrite_195 (h1.st _).2.1 rfl (by omega) (by decide) ?_
                  refine v_eqw (wu_wu _ _ _ _).symm ?_
                  refine v_aload_n dX8_rewrite_196 rfl ?_
                  refine v_get 0 dX8_rewrite_197 FTX8 (by decide) rfl fl_X8_7 (h1.st _).1 rfl ?_
                  refine v_iload dX8_rewrite_200 rfl ?_
                  refine v_iconst (v := nI 3) dX8_rewrite_202 (by decide) ?_
                  refine v_iaddN dX8_rewrite_203 ?_
                  refine v_iconst (v := nI 0) dX8_rewrite_204 (by decide) ?_
                  refine v_iast _ dX8_rewrite_205 (h1.st _).2.1 rfl (by omega) (by decide) ?_
                  refine v_eqw (wu_wu _ _ _ _).symm ?_
                  refine v_aload_n dX8_rewrite_206 rfl ?_
                  refine v_get 0 dX8_rewrite_207 FTX8 (by decide) rfl fl_X8_7 (h1.st _).1 rfl ?_
                  refine v_iload dX8_rewrite_210 rfl ?_
                  refine v_iconst (v := nI 4) dX8_rewrite_212 (by decide) ?_
                  refine v_iaddN dX8_rewrite_213 ?_
                  refine v_aload_n dX8_rewrite_214 rfl ?_
                  refine v_get 4 dX8_rewrite_215 FTX8 (by decide) rfl fl_X8_56 (h1.st _).1 rfl ?_
                  refine v_iast _ dX8_rewrite_218 (h1.st _).2.1 rfl (by omega) (by decide) ?_
                  refine v_eqw (wu_wu _ _ _ _).symm ?_
                  refine v_aload_n dX8_rewrite_219 rfl ?_
                  refine v_iload dX8_rewrite_220 rfl ?_
                  refine v_iconst (v := nI 5) dX8_rewrite_222 (by decide) ?_
                  refine v_iaddN dX8_rewrite_223 ?_
                  refine n_wV1 oX8_lays dX8_rewrite_224 ml_X8_88 (c_lays (h1.st _) (1808 + 65 * k + 5) (by omega) ht) (h1.st _).1 (by decide) (Nat.le_of_ble_eq_true rfl) (Nat.le_refl _) (Nat.le_refl _) ?_
                  refine v_eqw (wu_wu _ _ _ _).symm ?_
                  refine v_aload_n dX8_rewrite_227 rfl ?_
                  refine v_get 0 dX8_rewrite_228 FTX8 (by decide) rfl fl_X8_7 (h1.st _).1 rfl ?_
                  refine v_bipush (v := nI 18) dX8_rewrite_231 (by decide) ?_
                  refine v_dup2 dX8_rewrite_233 rfl rfl ?_
                  refine v_ialdE _ dX8_rewrite_234 (h1.st _).2.1 rfl (by omega) (by decide) ((lay_out (by omega)).trans ((up_ne _ _ (by omega)).trans ((up_ne _ _ (by omega)).trans ((up_ne _ _ (by omega)).trans ((up_ne _ _ (by omega)).trans ((up_ne _ _ (by omega)).trans h18)))))) ?_
                  refine v_iconst (v := nI 1) dX8_rewrite_235 (by decide) ?_
                  refine v_iadd dX8_rewrite_236 ?_
                  refine v_iast _ dX8_rewrite_237 (h1.st _).2.1 rfl (by omega) (by decide) ?_
                  refine v_eqw (wu_wu _ _ _ _).symm ?_
                  refine v_aload_n dX8_rewrite_238 rfl ?_
                  refine v_get 0 dX8_rewrite_239 FTX8 (by decide) rfl fl_X8_7 (h1.st _).1 rfl ?_
                  refine v_iload dX8_rewrite_242 rfl ?_
                  refine v_ialdE _ dX8_rewrite_244 (h1.st _).2.1 rfl (by omega) (by decide) ((up_ne _ _ (by omega)).trans ((lay_out (by omega)).trans ((up_ne _ _ (by omega)).trans ((up_ne _ _ (by omega)).trans ((up_ne _ _ (by omega)).trans ((up_ne _ _ (by omega)).trans (up_eq _ _ _))))))) ?_
                  refine v_iret dX8_rewrite_245 rfl (Nat.le_refl _) (Nat.le_refl _) ?_
                  have e : rewriteR σ ns tx tn (nI c) (nI a) (nI b) = (σ 18, rcn ns, rwtS σ1 k (3 * a + b) c (σ 18) tx tn) := by
                    subst es
                    unfold rewriteR
                    rw [if_pos hgg, nt_nI (n := a) (by omega), nt_nI (n := b) (by omega), nt_nI (n := c) (by omega), if_pos b24, if_pos b53, if_neg (by rw [b81]; decide)]
                    unfold rwtR
                    rw [if_neg h200]
                    rw [hq, hf]
                  rw [e]
                  exact ⟨rfl, AnQ.mk (h1.st _) (f1.wu _ (by omega) (by omega))⟩
                ·
                  exact absurd (by decide) b142
              ·
                refine v_bipush (v := -3) dX8_rewrite_133 (by decide) ?_
                refine v_iret dX8_rewrite_135 rfl (Nat.le_refl _) (Nat.le_refl _) ?_
                have e : rewriteR σ ns tx tn (nI c) (nI a) (nI b) = (-3, ns, σ) := by
                  unfold rewriteR
                  rw [if_pos hgg, nt_nI (n := a) (by omega), nt_nI (n := b) (by omega), nt_nI (n := c) (by omega), if_pos b24, if_pos b53, if_neg (by rw [b81]; decide)]
                  unfold rwtR
                  rw [if_pos (by rw [hW.2.2.2.2.1.1, b130])]
                rw [e]
                exact ⟨rfl, rfl, hM, frO.rf o w⟩
            ·
              exact absurd (by decide) b101
          ·
            refine v_bipush (v := -4) dX8_rewrite_84 (by decide) ?_
            refine v_iret dX8_rewrite_86 rfl (Nat.le_refl _) (Nat.le_refl _) ?_
            have e : rewriteR σ ns tx tn (nI c) (nI a) (nI b) = (-4, ns, σ) := by
              unfold rewriteR
              rw [if_pos hgg, nt_nI (n := a) (by omega), nt_nI (n := b) (by omega), nt_nI (n := c) (by omega), if_pos b24, if_pos b53, if_pos b81]
            rw [e]
            exact ⟨rfl, rfl, hM, frO.rf o w⟩
        ·
          have b53 : ¬ 1 + cnt (bl tx) tn ≤ limW σ a := b53
          refine v_bipush (v := -6) dX8_rewrite_56 (by decide) ?_
          refine v_iret dX8_rewrite_58 rfl (Nat.le_refl _) (Nat.le_refl _) ?_
          have e : rewriteR σ ns tx tn (nI c) (nI a) (nI b) = (-6, ns, σ) := by
            unfold rewriteR
            rw [if_pos hgg, nt_nI (n := a) (by omega), nt_nI (n := b) (by omega), nt_nI (n := c) (by omega), if_pos b24, if_neg b53]
          rw [e]
          exact ⟨rfl, rfl, hM, frO.rf o w⟩
      ·
        refine v_bipush (v := -100) dX8_rewrite_27 (by decide) ?_
        refine v_aload_n dX8_rewrite_29 rfl ?_
        refine u_rV0 oX8_fault dX8_rewrite_30 ml_X8_78 (c_fault hM ht) hM.1 (by decide) (Nat.le_of_ble_eq_true rfl) (Nat.le_refl _) (Nat.le_refl _) ?_
        refine v_isub dX8_rewrite_33 ?_
        refine v_iret dX8_rewrite_34 rfl (Nat.le_refl _) (Nat.le_refl _) ?_
        have e : rewriteR σ ns tx tn (nI c) (nI a) (nI b) = (-100 - flt tx tn, ns, σ) := by
          unfold rewriteR
          rw [if_pos hgg, nt_nI (n := a) (by omega), nt_nI (n := b) (by omega), nt_nI (n := c) (by omega), if_neg b24]
        rw [e]
        exact ⟨rfl, rfl, hM, frO.rf o w⟩
    ·
      exact absurd hgp (by rw [b15]; decide)
set_option maxHeartbeats 1000000 in
set_option maxRecDepth 100000 in
theorem c_rewriteC {w : Wd} {o ns tn : Nat} {kp : Int32} {σ tx cm : Nat → Int32} (hM : MW w o ns tn kp σ tx cm) (hns : ns ≤ 4) (hW : WS σ) (ht : tn ≤ 60) (c a b : Nat) (hc : c < 10) (ha : a < 8) (hb : b < 3) (hq : befO σ c (3 * a + b) = none) (hf : dnO (freP σ) 16 = none) : Wr mX8_rewrite 2 [.ref o, .int (nI c), .int (nI a), .int (nI b)] w (AnQ w o tn kp tx cm (rewriteR σ ns tx tn (nI c) (nI a) (nI b))) := by
  intro sz
  refine Ev.ofV [some (.ref o), some (.int (nI c)), some (.int (nI a)), some (.int (nI b)), none, none, none, none] (by decide) (Nat.le_of_ble_eq_true rfl) rfl rfl rfl ?_
  have hgc : inB (nI c) 9 = true := by rw [inB_nI (by omega) (by omega)]; simp; omega
  have hgp : (inB (nI a) 7 && inB (nI b) 2) = true := by rw [inB_nI (by omega) (by omega), inB_nI (by omega) (by omega)]; simp; omega
  have hgg : (inB (nI c) 9 && (inB (nI a) 7 && inB (nI b) 2)) = true := by rw [hgc, hgp]; rfl
  have hN := hW.2.2.2.2.1.2
  have co : Rd mX8_own 1 [.ref o, .int (nI c), .int (nI (3 * a + b))] w (some (.int (oI (befO σ c (3 * a + b))))) := by
    have c0 := c_own hM c (3 * a + b)
    rw [lst_eq] at c0
    exact c0
  rw [hq] at co
  have co : Rd mX8_own 1 [.ref o, .int (nI c), .int (nI (3 * a + b))] w (some (.int (-1))) := co
  have cf : Rd mX8_free 1 [.ref o] w (some (.int (oI (dnO (freP σ) 16)))) := by
    have c0 := c_free hM
    rw [dnI_eq] at c0
    exact c0
  rw [hf] at cf
  have cf : Rd mX8_free 1 [.ref o] w (some (.int (-1))) := cf
  refine v_iload_n dX8_rewrite_0 rfl ?_
  refine v_iconst (v := nI 0) dX8_rewrite_1 (by decide) ?_
  refine v_bipush (v := nI 9) dX8_rewrite_2 (by decide) ?_
  refine u_rS3 oX8_in dX8_rewrite_4 ml_X8_59 (c_inB (nI c) 9) (by decide) (Nat.le_of_ble_eq_true rfl) (Nat.le_refl _) (Nat.le_refl _) ?_
  refine v_if_eqB (tgt := 18) dX8_rewrite_7 (by decide) (fun b7 => ?_) (fun b7 => ?_)
  ·
    exact absurd hgc (by rw [b7]; decide)
  ·
    refine v_iload_n dX8_rewrite_10 rfl ?_
    refine v_iload_n dX8_rewrite_11 rfl ?_
    refine u_rS2 oX8_isPair dX8_rewrite_12 ml_X8_72 (c_isPair (nI a) (nI b)) (by decide) (Nat.le_of_ble_eq_true rfl) (Nat.le_refl _) (Nat.le_refl _) ?_
    refine v_if_neB (tgt := 20) dX8_rewrite_15 (by decide) (fun b15 => ?_) (fun b15 => ?_)
    ·
      refine v_aload_n dX8_rewrite_20 rfl ?_
      refine u_rV0 oX8_fault dX8_rewrite_21 ml_X8_78 (c_fault hM ht) hM.1 (by decide) (Nat.le_of_ble_eq_true rfl) (Nat.le_refl _) (Nat.le_refl _) ?_
      refine v_if_lt (tgt := 35) dX8_rewrite_24 (by decide) (fun b24 => ?_) (fun b24 => ?_)
      ·
        refine v_aload_n dX8_rewrite_35 rfl ?_
        refine u_rV0 oX8_wordsTold dX8_rewrite_36 ml_X8_82 (c_wordsTold hM ht) hM.1 (by decide) (Nat.le_of_ble_eq_true rfl) (Nat.le_refl _) (Nat.le_refl _) ?_
        refine v_aload_n dX8_rewrite_39 rfl ?_
        refine v_get 0 dX8_rewrite_40 FTX8 (by decide) rfl fl_X8_7 hM.1 rfl ?_
        refine v_bipush (v := nI 12) dX8_rewrite_43 (by decide) ?_
        refine v_aload_n dX8_rewrite_45 rfl ?_
        refine v_get 0 dX8_rewrite_46 FTX8 (by decide) rfl fl_X8_7 hM.1 rfl ?_
        refine v_iload_n dX8_rewrite_49 rfl ?_
        refine v_ialdN _ dX8_rewrite_50 hM.2.1 rfl (by omega) (by decide) (hW.1 a ha).1 ?_
        refine v_iaddN dX8_rewrite_51 ?_
        refine v_ialdN _ dX8_rewrite_52 hM.2.1 rfl (by have := (hW.1 a ha).2; omega) (by decide) (hW.2.2.1 _ (hW.1 a ha).2).1.1 ?_
        refine v_icmp_leN (tgt := 59) dX8_rewrite_53 (by decide) (by have := cnt_le (bl tx) tn; omega) (by have := (hW.2.2.1 _ (hW.1 a ha).2).1.2; omega) (fun b53 => ?_) (fun b53 => ?_)
        ·
          have b53 : 1 + cnt (bl tx) tn ≤ limW σ a := b53
          refine v_iload_n dX8_rewrite_59 rfl ?_
          refine v_iload_n dX8_rewrite_60 rfl ?_
          refine u_rS2 oX8_rowOf dX8_rewrite_61 ml_X8_28 (c_rowOf a b) (by decide) (Nat.le_of_ble_eq_true rfl) (Nat.le_refl _) (Nat.le_refl _) ?_
          refine v_istore dX8_rewrite_64 (by decide) rfl ?_
          refine v_aload_n dX8_rewrite_66 rfl ?_
          refine v_iload dX8_rewrite_67 rfl ?_
          refine v_iconst (v := nI 4) dX8_rewrite_69 (by decide) ?_
          refine v_iaddN dX8_rewrite_70 ?_
          refine v_aload_n dX8_rewrite_71 rfl ?_
          refine v_get 0 dX8_rewrite_72 FTX8 (by decide) rfl fl_X8_7 hM.1 rfl ?_
          refine v_iload dX8_rewrite_75 rfl ?_
          refine v_ialdN _ dX8_rewrite_77 hM.2.1 rfl (by omega) (by decide) ((hW.2.2.2.2.2.1 (3 * a + b) (by omega)).1).1 ?_
          refine u_rV2 oX8_isTold dX8_rewrite_78 ml_X8_85 (c_isTold hM (272 + 64 * (3 * a + b) + 4) (ln σ (3 * a + b)) (by omega) (by have := ((hW.2.2.2.2.2.1 (3 * a + b) (by omega)).1).2; unfold ln; omega) ht) hM.1 (by decide) (Nat.le_of_ble_eq_true rfl) (Nat.le_refl _) (Nat.le_refl _) ?_
          refine v_if_eqB (tgt := 87) dX8_rewrite_81 (by decide) (fun b81 => ?_) (fun b81 => ?_)
          ·
            refine v_aload_n dX8_rewrite_87 rfl ?_
            refine v_iload_n dX8_rewrite_88 rfl ?_
            refine v_iconst (v := nI 3) dX8_rewrite_89 (by decide) ?_
            refine v_iload_n dX8_rewrite_90 rfl ?_
            refine v_imulN dX8_rewrite_91 ?_
            refine v_iload_n dX8_rewrite_92 rfl ?_
            refine v_iaddN dX8_rewrite_93 ?_
            refine u_rV2 oX8_own dX8_rewrite_94 ml_X8_92 co hM.1 (by decide) (Nat.le_of_ble_eq_true rfl) (Nat.le_refl _) (Nat.le_refl _) ?_
            refine v_istore dX8_rewrite_97 (by decide) rfl ?_
            refine v_iload dX8_rewrite_99 rfl ?_
            refine v_if_lt (tgt := 109) dX8_rewrite_101 (by decide) (fun b101 => ?_) (fun b101 => ?_)
            ·
              refine v_aload_n dX8_rewrite_109 rfl ?_
              refine u_rV0 oX8_free dX8_rewrite_110 ml_X8_95 cf hM.1 (by decide) (Nat.le_of_ble_eq_true rfl) (Nat.le_refl _) (Nat.le_refl _) ?_
              refine v_istore dX8_rewrite_113 (by decide) rfl ?_
              refine v_iload dX8_rewrite_115 rfl ?_
              refine v_if_lt (tgt := 133) dX8_rewrite_117 (by decide) (fun b117 => ?_) (fun b117 => ?_)
              ·
                refine v_bipush (v := -3) dX8_rewrite_133 (by decide) ?_
                refine v_iret dX8_rewrite_135 rfl (Nat.le_refl _) (Nat.le_refl _) ?_
                have e : rewriteR σ ns tx tn (nI c) (nI a) (nI b) = (-3, ns, σ) := by
                  unfold rewriteR
                  rw [if_pos hgg, nt_nI (n := a) (by omega), nt_nI (n := b) (by omega), nt_nI (n := c) (by omega), if_pos b24, if_pos b53, if_neg (by rw [b81]; decide)]
                  unfold rwtR
                  rw [hq, hf]
                  split <;> rfl
                rw [e]
                exact ⟨rfl, rfl, hM, frO.rf o w⟩
              ·
                exact absurd (by decide) b117
            ·
              exact absurd (by decide) b101
          ·
            refine v_bipush (v := -4) dX8_rewrite_84 (by decide) ?_
            refine v_iret dX8_rewrite_86 rfl (Nat.le_refl _) (Nat.le_refl _) ?_
            have e : rewriteR σ ns tx tn (nI c) (nI a) (nI b) = (-4, ns, σ) := by
              unfold rewriteR
              rw [if_pos hgg, nt_nI (n := a) (by omega), nt_nI (n := b) (by omega), nt_nI (n := c) (by omega), if_pos b24, if_pos b53, if_pos b81]
            rw [e]
            exact ⟨rfl, rfl, hM, frO.rf o w⟩
        ·
          have b53 : ¬ 1 + cnt (bl tx) tn ≤ limW σ a := b53
          refine v_bipush (v := -6) dX8_rewrite_56 (by decide) ?_
          refine v_iret dX8_rewrite_58 rfl (Nat.le_refl _) (Nat.le_refl _) ?_
          have e : rewriteR σ ns tx tn (nI c) (nI a) (nI b) = (-6, ns, σ) := by
            unfold rewriteR
            rw [if_pos hgg, nt_nI (n := a) (by omega), nt_nI (n := b) (by omega), nt_nI (n := c) (by omega), if_pos b24, if_neg b53]
          rw [e]
          exact ⟨rfl, rfl, hM, frO.rf o w⟩
      ·
        refine v_bipush (v := -100) dX8_rewrite_27 (by decide) ?_
        refine v_aload_n dX8_rewrite_29 rfl ?_
        refine u_rV0 oX8_fault dX8_rewrite_30 ml_X8_78 (c_fault hM ht) hM.1 (by decide) (Nat.le_of_ble_eq_true rfl) (Nat.le_refl _) (Nat.le_refl _) ?_
        refine v_isub dX8_rewrite_33 ?_
        refine v_iret dX8_rewrite_34 rfl (Nat.le_refl _) (Nat.le_refl _) ?_
        have e : rewriteR σ ns tx tn (nI c) (nI a) (nI b) = (-100 - flt tx tn, ns, σ) := by
          unfold rewriteR
          rw [if_pos hgg, nt_nI (n := a) (by omega), nt_nI (n := b) (by omega), nt_nI (n := c) (by omega), if_neg b24]
        rw [e]
        exact ⟨rfl, rfl, hM, frO.rf o w⟩
    ·
      exact absurd hgp (by rw [b15]; decide)
theorem c_rewrite {w : Wd} {o ns tn : Nat} {kp : Int32} {σ tx cm : Nat → Int32} (hM : MW w o ns tn kp σ tx cm) (hns : ns ≤ 4) (hW : WS σ) (ht : tn ≤ 60) (v x y : Int32) : Wr mX8_rewrite 2 [.ref o, .int v, .int x, .int y] w (AnQ w o tn kp tx cm (rewriteR σ ns tx tn v x y)) := by
  by_cases h : (inB v 9 && (inB x 7 && inB y 2)) = false
  · exact c_rewrite0 hM v x y h
  · have h1 : (inB v 9 && (inB x 7 && inB y 2)) = true := by
      cases e : (inB v 9 && (inB x 7 && inB y 2))
      · exact absurd e h
      · rfl
    have h2 := h1
    simp only [Bool.and_eq_true] at h2
    have hv := inB_ub (by omega) h2.1
    have hx := inB_ub (by omega) h2.2.1
    have hy := inB_ub (by omega) h2.2.2
    rw [hv.1, hx.1, hy.1]
    cases hq : befO σ (nt v) (3 * nt x + nt y) with
    | some k => exact c_rewriteA hM hns hW ht (nt v) (nt x) (nt y) hv.2 hx.2 hy.2 k hq
    | none =>
      cases hf : dnO (freP σ) 16 with
      | some k => exact c_rewriteB hM hns hW ht (nt v) (nt x) (nt y) hv.2 hx.2 hy.2 k hq hf
      | none => exact c_rewriteC hM hns hW ht (nt v) (nt x) (nt y) hv.2 hx.2 hy.2 hq hf
