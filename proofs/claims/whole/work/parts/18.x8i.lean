/-- the table holds the first i rows, and the first j of row i -/
def tbl (e : Nat → Nat → Bool) (m i j : Nat) (cm : Nat → Int32) : Prop := (∀ i' j', i' < i → j' ≤ m → cm (31 * i' + j') = nI (lcr e i' j')) ∧ ∀ j', j' < j → cm (31 * i + j') = nI (lcr e i j')
theorem tbl_0 (e : Nat → Nat → Bool) (m : Nat) (cm : Nat → Int32) : tbl e m 0 0 cm := ⟨fun _ _ h _ => absurd h (Nat.not_lt_zero _), fun _ h => absurd h (Nat.not_lt_zero _)⟩
theorem tbl_j {e : Nat → Nat → Bool} {m i j : Nat} {cm : Nat → Int32} {v : Nat} (h : tbl e m i j cm) (hj : j ≤ m) (hm : m ≤ 30) (hv : v = lcr e i j) : tbl e m i (j + 1) (upd cm (31 * i + j) (nI v)) := by
  refine ⟨fun i' j' h1 h2 => ?_, fun j' h1 => ?_⟩
  · rw [up_ne _ _ (by omega)]
    exact h.1 i' j' h1 h2
  · by_cases e1 : j' = j
    · rw [e1, up_eq, hv]
    · rw [up_ne _ _ (by omega)]
      exact h.2 j' (by omega)
theorem tbl_i {e : Nat → Nat → Bool} {m i : Nat} {cm : Nat → Int32} (h : tbl e m i (m + 1) cm) : tbl e m (i + 1) 0 cm := by
  refine ⟨fun i' j' h1 h2 => ?_, fun _ h => absurd h (Nat.not_lt_zero _)⟩
  by_cases e1 : i' = i
  · rw [e1]
    exact h.2 j' (by omega)
  · exact h.1 i' j' (by omega) h2
def smE (f g : Nat → Int32) (n m : Nat) : Nat → Nat → Bool := fun i j => same f n i g m j
theorem nw_cnt {f : Nat → Int32} {n i : Nat} (h : i < nw f n) : i ≤ cnt (bl f) n := by
  unfold nw at h
  split at h <;> omega
/-- how far two rows of words are apart -/
def aprt (f g : Nat → Int32) (n m : Nat) : Int32 := nI (nw f n + nw g m) - nI (2 * lcr (smE f g n m) (nw f n) (nw g m))
set_option maxHeartbeats 4000000 in
set_option maxRecDepth 100000 in
theorem c_apart {w : Wd} {o ns tn : Nat} {kp : Int32} {σ tx cm : Nat → Int32} (hM : MW w o ns tn kp σ tx cm) (a n b m : Nat) (h : a + n ≤ 17088) (h2 : b + m ≤ 17088) (hP : nw (sft σ a) n ≤ 30) (hR : nw (sft σ b) m ≤ 30) : Wr mX8_apart 2 [.ref o, .int (nI a), .int (nI n), .int (nI b), .int (nI m)] w (fun r' w' => r' = some (.int (aprt (sft σ a) (sft σ b) n m)) ∧ ∃ cm', w' = wu w (o + 3) (ia 1 961 cm')) := by
  intro sz
  refine Ev.ofV [some (.ref o), some (.int (nI a)), some (.int (nI n)), some (.int (nI b)), some (.int (nI m)), none, none, none, none, none, none, none, none] (by decide) (Nat.le_of_ble_eq_true rfl) rfl rfl rfl ?_
  have c1 := c_words hM a n h
  have c2 := c_words hM b m h2
  obtain ⟨P, eP⟩ : ∃ P, P = nw (sft σ a) n := ⟨_, rfl⟩
  obtain ⟨R, eR⟩ : ∃ R, R = nw (sft σ b) m := ⟨_, rfl⟩
  rw [← eP] at c1 hP
  rw [← eR] at c2 hR
  refine v_aload_n dX8_apart_0 rfl ?_
  refine v_iload_n dX8_apart_1 rfl ?_
  refine v_iload_n dX8_apart_2 rfl ?_
  refine u_rV2 oX8_words dX8_apart_3 ml_X8_32 c1 hM.1 (by decide) (Nat.le_of_ble_eq_true rfl) (Nat.le_refl _) (Nat.le_refl _) ?_
  refine v_istore dX8_apart_6 (by decide) rfl ?_
  refine v_aload_n dX8_apart_8 rfl ?_
  refine v_iload_n dX8_apart_9 rfl ?_
  refine v_iload dX8_apart_10 rfl ?_
  refine u_rV2 oX8_words dX8_apart_12 ml_X8_32 c2 hM.1 (by decide) (Nat.le_of_ble_eq_true rfl) (Nat.le_refl _) (Nat.le_refl _) ?_
  refine v_istore dX8_apart_15 (by decide) rfl ?_
  refine v_iconst (v := nI 0) dX8_apart_17 (by decide) ?_
  refine v_istore dX8_apart_18 (by decide) rfl ?_
  have LP20 : ∀ i, i ≤ P + 1 → ∀ cm1, tbl (smE (sft σ a) (sft σ b) n m) R i 0 cm1 → V mX8_apart 2 0 0 (fun r' w' zz => zz = sz ∧ r' = some (.int (aprt (sft σ a) (sft σ b) n m)) ∧ ∃ cm', w' = wu w (o + 3) (ia 1 961 cm')) (wu w (o + 3) (ia 1 961 cm1)) (sz) (0) (0) [some (.ref o), some (.int (nI a)), some (.int (nI n)), some (.int (nI b)), some (.int (nI m)), some (.int (nI P)), some (.int (nI R)), some (.int (nI i)), none, none, none, none, none] [] 20 := by
    refine dn (fun i hi ihi => ?_)
    intro cm1 ht
    refine v_iload dX8_apart_20 rfl ?_
    refine v_iload dX8_apart_22 rfl ?_
    refine v_icmp_gtN (tgt := 173) dX8_apart_24 (by decide) (by omega) (by omega) (fun b24 => ?_) (fun b24 => ?_)
    ·
      have e4 : i = P + 1 := by omega
      subst e4
      refine v_iload dX8_apart_173 rfl ?_
      refine v_iload dX8_apart_175 rfl ?_
      refine v_iaddN dX8_apart_177 ?_
      refine v_iconst (v := nI 2) dX8_apart_178 (by decide) ?_
      refine v_aload_n dX8_apart_179 rfl ?_
      refine v_get 5 dX8_apart_180 FTX8 (by decide) rfl fl_X8_17 (hM.cm _).1 rfl ?_
      refine v_bipush (v := nI 31) dX8_apart_183 (by decide) ?_
      refine v_iload dX8_apart_185 rfl ?_
      refine v_imulN dX8_apart_187 ?_
      refine v_iload dX8_apart_188 rfl ?_
      refine v_iaddN dX8_apart_190 ?_
      refine v_ialdN _ dX8_apart_191 (hM.cm _).2.2.2 rfl (by omega) (by decide) (ht.1 _ _ (by omega) (Nat.le_refl _)) ?_
      refine v_imulN dX8_apart_192 ?_
      refine v_isub dX8_apart_193 ?_
      refine v_iret dX8_apart_194 rfl (Nat.le_refl _) (Nat.le_refl _) ?_
      refine ⟨rfl, ?_, cm1, rfl⟩
      unfold aprt
      rw [← eP, ← eR, ← nI_mulN]
    ·
      refine v_iconst (v := nI 0) dX8_apart_27 (by decide) ?_
      refine v_istore dX8_apart_28 (by decide) rfl ?_
      have LP30 : ∀ j, j ≤ R + 1 → ∀ cm1, tbl (smE (sft σ a) (sft σ b) n m) R i j cm1 → V mX8_apart 2 0 0 (fun r' w' zz => zz = sz ∧ r' = some (.int (aprt (sft σ a) (sft σ b) n m)) ∧ ∃ cm', w' = wu w (o + 3) (ia 1 961 cm')) (wu w (o + 3) (ia 1 961 cm1)) (sz) (0) (0) [some (.ref o), some (.int (nI a)), some (.int (nI n)), some (.int (nI b)), some (.int (nI m)), some (.int (nI P)), some (.int (nI R)), some (.int (nI i)), some (.int (nI j)), none, none, none, none] [] 30 := by
        refine dn (fun j hj ihj => ?_)
        intro cm1 ht
        refine v_iload dX8_apart_30 rfl ?_
        refine v_iload dX8_apart_32 rfl ?_
        refine v_icmp_gtN (tgt := 167) dX8_apart_34 (by decide) (by omega) (by omega) (fun b34 => ?_) (fun b34 => ?_)
        ·
          have e3 : j = R + 1 := by omega
          subst e3
          refine v_iincN dX8_apart_167 (by decide) rfl rfl rfl ?_
          refine v_goto (tgt := 20) dX8_apart_170 (by decide) ?_
          refine v_drop 8 ?_
          exact ihi (by omega) cm1 (tbl_i ht)
        ·
          have JN : ∀ v, v = lcr (smE (sft σ a) (sft σ b) n m) i j → V mX8_apart 2 0 0 (fun r' w' zz => zz = sz ∧ r' = some (.int (aprt (sft σ a) (sft σ b) n m)) ∧ ∃ cm', w' = wu w (o + 3) (ia 1 961 cm')) (wu w (o + 3) (ia 1 961 cm1)) (sz) (0) (0) [some (.ref o), some (.int (nI a)), some (.int (nI n)), some (.int (nI b)), some (.int (nI m)), some (.int (nI P)), some (.int (nI R)), some (.int (nI i)), some (.int (nI j)), some (.int (nI v)), none, none, none] [] 146 := by
            intro v hv
            refine v_aload_n dX8_apart_146 rfl ?_
            refine v_get 5 dX8_apart_147 FTX8 (by decide) rfl fl_X8_17 (hM.cm _).1 rfl ?_
            refine v_bipush (v := nI 31) dX8_apart_150 (by decide) ?_
            refine v_iload dX8_apart_152 rfl ?_
            refine v_imulN dX8_apart_154 ?_
            refine v_iload dX8_apart_155 rfl ?_
            refine v_iaddN dX8_apart_157 ?_
            refine v_iload dX8_apart_158 rfl ?_
            refine v_iast _ dX8_apart_160 (hM.cm _).2.2.2 rfl (by omega) (by decide) ?_
            refine v_eqw (wu_wu _ _ _ _).symm ?_
            refine v_iincN dX8_apart_161 (by decide) rfl rfl rfl ?_
            refine v_goto (tgt := 30) dX8_apart_164 (by decide) ?_
            refine v_drop 9 ?_
            refine v_drop 10 ?_
            refine v_drop 11 ?_
            refine v_drop 12 ?_
            exact ihj (by omega) _ (tbl_j ht (by omega) (by omega) hv)
          refine v_iconst (v := nI 0) dX8_apart_37 (by decide) ?_
          refine v_istore dX8_apart_38 (by decide) rfl ?_
          refine v_iload dX8_apart_40 rfl ?_
          refine v_if_leN (tgt := 146) dX8_apart_42 (by decide) (by omega) (fun b42 => ?_) (fun b42 => ?_)
          ·
            exact JN 0 (by rw [b42]; rfl)
          ·
            refine v_iload dX8_apart_45 rfl ?_
            refine v_if_leN (tgt := 146) dX8_apart_47 (by decide) (by omega) (fun b47 => ?_) (fun b47 => ?_)
            ·
              exact JN 0 (by rw [b47]; cases i <;> rfl)
            ·
              obtain ⟨i0, ei⟩ : ∃ i0, i = i0 + 1 := ⟨i - 1, by omega⟩
              obtain ⟨j0, ej⟩ : ∃ j0, j = j0 + 1 := ⟨j - 1, by omega⟩
              have hleft : cm1 (31 * i + j - 1) = nI (lcr (smE (sft σ a) (sft σ b) n m) i (j - 1)) := by rw [show 31 * i + j - 1 = 31 * i + (j - 1) by omega]; exact ht.2 _ (by omega)
              have hL : lcr (smE (sft σ a) (sft σ b) n m) i j = if same (sft σ a) n (i - 1) (sft σ b) m (j - 1) = true then lcr (smE (sft σ a) (sft σ b) n m) (i - 1) (j - 1) + 1 else if lcr (smE (sft σ a) (sft σ b) n m) i (j - 1) < lcr (smE (sft σ a) (sft σ b) n m) (i - 1) j then lcr (smE (sft σ a) (sft σ b) n m) (i - 1) j else lcr (smE (sft σ a) (sft σ b) n m) i (j - 1) := by
                subst ei
                subst ej
                rfl
              refine v_aload_n dX8_apart_50 rfl ?_
              refine v_get 5 dX8_apart_51 FTX8 (by decide) rfl fl_X8_17 (hM.cm _).1 rfl ?_
              refine v_bipush (v := nI 31) dX8_apart_54 (by decide) ?_
              refine v_iload dX8_apart_56 rfl ?_
              refine v_iconst (v := nI 1) dX8_apart_58 (by decide) ?_
              refine v_isubN dX8_apart_59 (by omega) ?_
              refine v_imulN dX8_apart_60 ?_
              refine v_iload dX8_apart_61 rfl ?_
              refine v_iaddN dX8_apart_63 ?_
              refine v_ialdN _ dX8_apart_64 (hM.cm _).2.2.2 rfl (by omega) (by decide) (ht.1 (i - 1) j (by omega) (by omega)) ?_
              refine v_istore dX8_apart_65 (by decide) rfl ?_
              refine v_aload_n dX8_apart_67 rfl ?_
              refine v_get 5 dX8_apart_68 FTX8 (by decide) rfl fl_X8_17 (hM.cm _).1 rfl ?_
              refine v_bipush (v := nI 31) dX8_apart_71 (by decide) ?_
              refine v_iload dX8_apart_73 rfl ?_
              refine v_imulN dX8_apart_75 ?_
              refine v_iload dX8_apart_76 rfl ?_
              refine v_iaddN dX8_apart_78 ?_
              refine v_iconst (v := nI 1) dX8_apart_79 (by decide) ?_
              refine v_isubN dX8_apart_80 (by omega) ?_
              refine v_ialdN _ dX8_apart_81 (hM.cm _).2.2.2 rfl (by omega) (by decide) hleft ?_
              refine v_istore dX8_apart_82 (by decide) rfl ?_
              refine v_aload_n dX8_apart_84 rfl ?_
              refine v_iload_n dX8_apart_85 rfl ?_
              refine v_iload_n dX8_apart_86 rfl ?_
              refine v_iload dX8_apart_87 rfl ?_
              refine v_iconst (v := nI 1) dX8_apart_89 (by decide) ?_
              refine v_isubN dX8_apart_90 (by omega) ?_
              refine v_iload_n dX8_apart_91 rfl ?_
              refine v_iload dX8_apart_92 rfl ?_
              refine v_iload dX8_apart_94 rfl ?_
              refine v_iconst (v := nI 1) dX8_apart_96 (by decide) ?_
              refine v_isubN dX8_apart_97 (by omega) ?_
              refine u_rV6 oX8_areAlike dX8_apart_98 ml_X8_114 (show Rd mX8_areAlike 1 _ _ (some (.int (b2i (same (sft σ a) n (i - 1) (sft σ b) m (j - 1))))) from c_areAlike (hM.cm _) a n (i - 1) b m (j - 1) h h2 (nw_cnt (by omega)) (nw_cnt (by omega))) (hM.cm _).1 (by decide) (Nat.le_of_ble_eq_true rfl) (Nat.le_refl _) (Nat.le_refl _) ?_
              refine v_istore dX8_apart_101 (by decide) rfl ?_
              refine v_iload dX8_apart_103 rfl ?_
              refine v_if_eqB (tgt := 130) dX8_apart_105 (by decide) (fun b105 => ?_) (fun b105 => ?_)
              ·
                have hs : same (sft σ a) n (i - 1) (sft σ b) m (j - 1) = false := b105
                refine v_iload dX8_apart_130 rfl ?_
                refine v_iload dX8_apart_132 rfl ?_
                refine v_icmp_leN (tgt := 142) dX8_apart_134 (by decide) (by have := lcr_le (e := (smE (sft σ a) (sft σ b) n m)) (i - 1) j; omega) (by have := lcr_le (e := (smE (sft σ a) (sft σ b) n m)) i (j - 1); omega) (fun b134 => ?_) (fun b134 => ?_)
                ·
                  have hv : lcr (smE (sft σ a) (sft σ b) n m) i (j - 1) = lcr (smE (sft σ a) (sft σ b) n m) i j := by rw [hL, if_neg (by rw [hs]; decide), if_neg (Nat.not_lt.mpr b134)]
                  refine v_iload dX8_apart_142 rfl ?_
                  refine v_istore dX8_apart_144 (by decide) rfl ?_
                  refine v_drop 10 ?_
                  refine v_drop 11 ?_
                  refine v_drop 12 ?_
                  exact JN _ hv
                ·
                  have hv : lcr (smE (sft σ a) (sft σ b) n m) (i - 1) j = lcr (smE (sft σ a) (sft σ b) n m) i j := by rw [hL, if_neg (by rw [hs]; decide), if_pos (Nat.not_le.mp b134)]
                  refine v_iload dX8_apart_137 rfl ?_
                  refine v_goto (tgt := 144) dX8_apart_139 (by decide) ?_
                  refine v_istore dX8_apart_144 (by decide) rfl ?_
                  refine v_drop 10 ?_
                  refine v_drop 11 ?_
                  refine v_drop 12 ?_
                  exact JN _ hv
              ·
                have hs : same (sft σ a) n (i - 1) (sft σ b) m (j - 1) = true := b105
                have hv : lcr (smE (sft σ a) (sft σ b) n m) (i - 1) (j - 1) + 1 = lcr (smE (sft σ a) (sft σ b) n m) i j := by rw [hL, if_pos hs]
                refine v_aload_n dX8_apart_108 rfl ?_
                refine v_get 5 dX8_apart_109 FTX8 (by decide) rfl fl_X8_17 (hM.cm _).1 rfl ?_
                refine v_bipush (v := nI 31) dX8_apart_112 (by decide) ?_
                refine v_iload dX8_apart_114 rfl ?_
                refine v_iconst (v := nI 1) dX8_apart_116 (by decide) ?_
                refine v_isubN dX8_apart_117 (by omega) ?_
                refine v_imulN dX8_apart_118 ?_
                refine v_iload dX8_apart_119 rfl ?_
                refine v_iaddN dX8_apart_121 ?_
                refine v_iconst (v := nI 1) dX8_apart_122 (by decide) ?_
                refine v_isubN dX8_apart_123 (by omega) ?_
                refine v_ialdN _ dX8_apart_124 (hM.cm _).2.2.2 (by congr 1; omega) (by omega) (by decide) (ht.1 (i - 1) (j - 1) (by omega) (by omega)) ?_
                refine v_iconst (v := nI 1) dX8_apart_125 (by decide) ?_
                refine v_iaddN dX8_apart_126 ?_
                refine v_goto (tgt := 144) dX8_apart_127 (by decide) ?_
                refine v_istore dX8_apart_144 (by decide) rfl ?_
                refine v_drop 10 ?_
                refine v_drop 11 ?_
                refine v_drop 12 ?_
                exact JN _ hv
      refine v_drop 9 ?_
      refine v_drop 10 ?_
      refine v_drop 11 ?_
      refine v_drop 12 ?_
      exact LP30 0 (Nat.zero_le _) cm1 ht
  refine v_eqw (wu_self hM.2.2.2) ?_
  exact LP20 0 (Nat.zero_le _) cm (tbl_0 _ _ _)
