theorem v_gen {mi : MI} {d mc ms : Nat} {Po : Option Value → Wd → Nat → Prop} {w : Wd} {sz cells slots : Nat} {L : List (Option Value)} {stk : List Value} {pc : Nat} (P : Wd → Prop) (hp : P w) (k : ∀ w', P w' → V mi d mc ms Po w' sz cells slots L stk pc) : V mi d mc ms Po w sz cells slots L stk pc := k w hp
/-- what the numbers of the reference are at first -/
def in1 (i : Nat) : Nat → Int32 := fun q => if q < i then nI (q % 4) else 0
def in2 (i : Nat) : Nat → Int32 := fun q => if 8 ≤ q ∧ q < 8 + i then nI 1 else if 12 ≤ q ∧ q < 12 + i then nI 10 else in1 8 q
def in4 (i : Nat) : Nat → Int32 := fun q => if 32 ≤ q ∧ q < 32 + i then -1 else upd (in2 4) 16 (nI 2) q
def in5 : Nat → Nat → Int32
  | 0 => in4 240
  | i + 1 => upd (in5 i) (1808 + 65 * i) (-1)
theorem in1_0 : in1 0 = fun _ => 0 := by
  funext q
  simp [in1]
theorem in1_S (i : Nat) : upd (in1 i) i (nI (i % 4)) = in1 (i + 1) := by
  funext q
  simp only [upd, in1]
  by_cases e : q = i
  · subst e
    simp
  · rw [if_neg e]
    by_cases h : q < i
    · rw [if_pos h, if_pos (by omega)]
    · rw [if_neg h, if_neg (by omega)]
theorem in2_0 : in2 0 = in1 8 := by
  funext q
  simp only [in2]
  rw [if_neg (by omega), if_neg (by omega)]
theorem in2_S {i : Nat} (hi : i < 4) : upd (upd (in2 i) (8 + i) (nI 1)) (12 + i) (nI 10) = in2 (i + 1) := by
  funext q
  simp only [upd, in2]
  by_cases e : q = 12 + i
  · subst e
    rw [if_pos rfl, if_neg (by omega), if_pos (by omega)]
  · rw [if_neg e]
    by_cases e2 : q = 8 + i
    · subst e2
      rw [if_pos rfl, if_pos (by omega)]
    · rw [if_neg e2]
      by_cases h : 8 ≤ q ∧ q < 8 + i
      · rw [if_pos h, if_pos (by omega)]
      · rw [if_neg h]
        by_cases h2 : 12 ≤ q ∧ q < 12 + i
        · rw [if_pos h2, if_neg (by omega), if_pos (by omega)]
        · rw [if_neg h2, if_neg (by omega), if_neg (by omega)]
theorem in4_0 : in4 0 = upd (in2 4) 16 (nI 2) := by
  funext q
  simp only [in4]
  rw [if_neg (by omega)]
theorem in4_S (i : Nat) : upd (in4 i) (32 + i) (-1) = in4 (i + 1) := by
  funext q
  by_cases e : q = 32 + i
  · subst e
    rw [up_eq]
    simp only [in4]
    rw [if_pos (by omega)]
  · rw [up_ne _ _ e]
    simp only [in4]
    by_cases h : 32 ≤ q ∧ q < 32 + i
    · rw [if_pos h, if_pos (by omega)]
    · rw [if_neg h, if_neg (by omega)]
theorem nI_mod4 {p : Nat} (h : p < 8) : nI p - nI p / nI 4 * nI 4 = nI (p % 4) := by
  have : ∀ p : Fin 8, nI p.val - nI p.val / nI 4 * nI 4 = nI (p.val % 4) := by decide
  exact this ⟨p, h⟩
set_option maxHeartbeats 1000000 in
set_option maxRecDepth 100000 in
theorem c_X8init {w : Wd} {o sz : Nat} (hsz : sz = o + 1) (h0 : w o = some (ob 8 [.null, .int 0, .int 0, .null, .int 0, .null])) : Ev mX8_init 1 [.ref o] w sz 3 18109 (fun r' w' zz => r' = none ∧ zz = sz + 1 + 1 + 1 ∧ MW w' o 0 0 0 (in5 16) (fun _ => 0) (fun _ => 0) ∧ ∀ q, q < o → w' q = w q) := by
  subst hsz
  refine Ev.ofV [some (.ref o), none] (by decide) (Nat.le_of_ble_eq_true rfl) rfl rfl rfl ?_
  refine v_aload_n dX8_init_0 rfl ?_
  refine v_objInit dX8_init_1 ml_X8_1 (by decide) (Nat.le_of_ble_eq_true rfl) ?_
  refine v_aload_n dX8_init_4 rfl ?_
  refine v_sipush (v := nI 17088) dX8_init_5 (by decide) ?_
  refine v_newarr (t := 1) (by decide) dX8_init_8 rfl (by decide) (by decide) (by decide) ?_
  refine v_putF 0 dX8_init_10 FTX8 (by decide) rfl fl_X8_7 ((wu_ne w _ (by omega)).trans h0) rfl rfl (Nat.le_of_ble_eq_true rfl) rfl rfl rfl ?_
  refine v_aload_n dX8_init_13 rfl ?_
  refine v_bipush (v := nI 60) dX8_init_14 (by decide) ?_
  refine v_newarr (t := 0) (by decide) dX8_init_16 rfl (by decide) (by decide) (by decide) ?_
  refine v_putF 3 dX8_init_18 FTX8 (by decide) rfl fl_X8_13 ((wu_ne _ _ (by omega)).trans (wu_eq _ _ _)) rfl rfl (Nat.le_of_ble_eq_true rfl) rfl rfl rfl ?_
  refine v_aload_n dX8_init_21 rfl ?_
  refine v_sipush (v := nI 961) dX8_init_22 (by decide) ?_
  refine v_newarr (t := 1) (by decide) dX8_init_25 rfl (by decide) (by decide) (by decide) ?_
  refine v_putF 5 dX8_init_27 FTX8 (by decide) rfl fl_X8_17 ((wu_ne _ _ (by omega)).trans (wu_eq _ _ _)) rfl rfl (Nat.le_of_ble_eq_true rfl) rfl rfl rfl ?_
  refine v_gen (fun w' => MW w' o 0 0 0 (fun _ => 0) (fun _ => 0) (fun _ => 0) ∧ ∀ q, q < o → w' q = w q) ⟨⟨by simp [wu]; rfl, by simp [wu], by simp [wu], by simp [wu]⟩, fun q hq => by simp [wu, show q ≠ o by omega, show q ≠ o + 1 by omega, show q ≠ o + 1 + 1 by omega, show q ≠ o + 1 + 1 + 1 by omega]⟩ (fun w1 hw1 => ?_)
  obtain ⟨hM, hfr⟩ := hw1
  refine v_eqw hM.self ?_
  refine v_iconst (v := nI 0) dX8_init_30 (by decide) ?_
  refine v_istore_n dX8_init_31 (by decide) rfl ?_
  have LP32 : ∀ i, i ≤ 8 → V mX8_init 1 3 18109 (fun r' w' zz => r' = none ∧ zz = o + 1 + 1 + 1 + 1 ∧ MW w' o 0 0 0 (in5 16) (fun _ => 0) (fun _ => 0) ∧ ∀ q, q < o → w' q = w q) (wu w1 (o + 1) (ia 1 17088 (in1 i))) (o + 1 + 1 + 1 + 1) (0 + 1 + 1 + 1) (0 + 17088 + 60 + 961) [some (.ref o), some (.int (nI i))] [] 32 := by
    refine dn (fun i hi ih => ?_)
    refine v_iload_n dX8_init_32 rfl ?_
    refine v_bipush (v := nI 8) dX8_init_33 (by decide) ?_
    refine v_icmp_geN (tgt := 53) dX8_init_35 (by decide) (by omega) (by omega) (fun b35 => ?_) (fun b35 => ?_)
    ·
      have e8 : i = 8 := by omega
      subst e8
      refine v_iconst (v := nI 0) dX8_init_53 (by decide) ?_
      refine v_istore_n dX8_init_54 (by decide) rfl ?_
      have LP55 : ∀ i, i ≤ 4 → V mX8_init 1 3 18109 (fun r' w' zz => r' = none ∧ zz = o + 1 + 1 + 1 + 1 ∧ MW w' o 0 0 0 (in5 16) (fun _ => 0) (fun _ => 0) ∧ ∀ q, q < o → w' q = w q) (wu w1 (o + 1) (ia 1 17088 (in2 i))) (o + 1 + 1 + 1 + 1) (0 + 1 + 1 + 1) (0 + 17088 + 60 + 961) [some (.ref o), some (.int (nI i))] [] 55 := by
        refine dn (fun i hi ih => ?_)
        refine v_iload_n dX8_init_55 rfl ?_
        refine v_iconst (v := nI 4) dX8_init_56 (by decide) ?_
        refine v_icmp_geN (tgt := 87) dX8_init_57 (by decide) (by omega) (by omega) (fun b57 => ?_) (fun b57 => ?_)
        ·
          have e8 : i = 4 := by omega
          subst e8
          refine v_aload_n dX8_init_87 rfl ?_
          refine v_get 0 dX8_init_88 FTX8 (by decide) rfl fl_X8_7 (hM.st _).1 rfl ?_
          refine v_bipush (v := nI 16) dX8_init_91 (by decide) ?_
          refine v_iconst (v := nI 2) dX8_init_93 (by decide) ?_
          refine v_iast _ dX8_init_94 (hM.st _).2.1 rfl (by omega) (by decide) ?_
          refine v_eqw (wu_wu _ _ _ _).symm ?_
          refine v_bipush (v := nI 32) dX8_init_95 (by decide) ?_
          refine v_istore_n dX8_init_97 (by decide) rfl ?_
          have LP98 : ∀ i, i ≤ 240 → V mX8_init 1 3 18109 (fun r' w' zz => r' = none ∧ zz = o + 1 + 1 + 1 + 1 ∧ MW w' o 0 0 0 (in5 16) (fun _ => 0) (fun _ => 0) ∧ ∀ q, q < o → w' q = w q) (wu w1 (o + 1) (ia 1 17088 (in4 i))) (o + 1 + 1 + 1 + 1) (0 + 1 + 1 + 1) (0 + 17088 + 60 + 961) [some (.ref o), some (.int (nI (32 + i)))] [] 98 := by
            refine dn (fun i hi ih => ?_)
            refine v_iload_n dX8_init_98 rfl ?_
            refine v_sipush (v := nI 272) dX8_init_99 (by decide) ?_
            refine v_icmp_geN (tgt := 118) dX8_init_102 (by decide) (by omega) (by omega) (fun b102 => ?_) (fun b102 => ?_)
            ·
              have e8 : i = 240 := by omega
              subst e8
              refine v_iconst (v := nI 0) dX8_init_118 (by decide) ?_
              refine v_istore_n dX8_init_119 (by decide) rfl ?_
              have LP120 : ∀ i, i ≤ 16 → V mX8_init 1 3 18109 (fun r' w' zz => r' = none ∧ zz = o + 1 + 1 + 1 + 1 ∧ MW w' o 0 0 0 (in5 16) (fun _ => 0) (fun _ => 0) ∧ ∀ q, q < o → w' q = w q) (wu w1 (o + 1) (ia 1 17088 (in5 i))) (o + 1 + 1 + 1 + 1) (0 + 1 + 1 + 1) (0 + 17088 + 60 + 961) [some (.ref o), some (.int (nI i))] [] 120 := by
                refine dn (fun i hi ih => ?_)
                refine v_iload_n dX8_init_120 rfl ?_
                refine v_bipush (v := nI 16) dX8_init_121 (by decide) ?_
                refine v_icmp_geN (tgt := 146) dX8_init_123 (by decide) (by omega) (by omega) (fun b123 => ?_) (fun b123 => ?_)
                ·
                  have e8 : i = 16 := by omega
                  subst e8
                  refine v_ret dX8_init_146 rfl (by decide) (by decide) ?_
                  exact ⟨rfl, rfl, hM.st _, fun q hq => (wu_ne _ _ (by omega)).trans (hfr q hq)⟩
                ·
                  refine v_aload_n dX8_init_126 rfl ?_
                  refine v_get 0 dX8_init_127 FTX8 (by decide) rfl fl_X8_7 (hM.st _).1 rfl ?_
                  refine v_sipush (v := nI 1808) dX8_init_130 (by decide) ?_
                  refine v_bipush (v := nI 65) dX8_init_133 (by decide) ?_
                  refine v_iload_n dX8_init_135 rfl ?_
                  refine v_imulN dX8_init_136 ?_
                  refine v_iaddN dX8_init_137 ?_
                  refine v_iconst (v := -1) dX8_init_138 (by decide) ?_
                  refine v_iast _ dX8_init_139 (hM.st _).2.1 rfl (by omega) (by decide) ?_
                  refine v_eqw (wu_wu _ _ _ _).symm ?_
                  refine v_iincN dX8_init_140 (by decide) rfl rfl rfl ?_
                  refine v_goto (tgt := 120) dX8_init_143 (by decide) ?_
                  exact ih (by omega)
              exact LP120 0 (Nat.zero_le _)
            ·
              refine v_aload_n dX8_init_105 rfl ?_
              refine v_get 0 dX8_init_106 FTX8 (by decide) rfl fl_X8_7 (hM.st _).1 rfl ?_
              refine v_iload_n dX8_init_109 rfl ?_
              refine v_iconst (v := -1) dX8_init_110 (by decide) ?_
              refine v_iast _ dX8_init_111 (hM.st _).2.1 rfl (by omega) (by decide) ?_
              refine v_eqw (wu_wu _ _ _ _).symm ?_
              refine v_iincN dX8_init_112 (by decide) rfl rfl rfl ?_
              refine v_goto (tgt := 98) dX8_init_115 (by decide) ?_
              refine v_sg (in4_S i).symm ?_
              exact ih (by omega)
          refine v_sg in4_0 ?_
          exact LP98 0 (Nat.zero_le _)
        ·
          refine v_aload_n dX8_init_60 rfl ?_
          refine v_get 0 dX8_init_61 FTX8 (by decide) rfl fl_X8_7 (hM.st _).1 rfl ?_
          refine v_bipush (v := nI 8) dX8_init_64 (by decide) ?_
          refine v_iload_n dX8_init_66 rfl ?_
          refine v_iaddN dX8_init_67 ?_
          refine v_iconst (v := nI 1) dX8_init_68 (by decide) ?_
          refine v_iast _ dX8_init_69 (hM.st _).2.1 rfl (by omega) (by decide) ?_
          refine v_eqw (wu_wu _ _ _ _).symm ?_
          refine v_aload_n dX8_init_70 rfl ?_
          refine v_get 0 dX8_init_71 FTX8 (by decide) rfl fl_X8_7 (hM.st _).1 rfl ?_
          refine v_bipush (v := nI 12) dX8_init_74 (by decide) ?_
          refine v_iload_n dX8_init_76 rfl ?_
          refine v_iaddN dX8_init_77 ?_
          refine v_bipush (v := nI 10) dX8_init_78 (by decide) ?_
          refine v_iast _ dX8_init_80 (hM.st _).2.1 rfl (by omega) (by decide) ?_
          refine v_eqw (wu_wu _ _ _ _).symm ?_
          refine v_iincN dX8_init_81 (by decide) rfl rfl rfl ?_
          refine v_goto (tgt := 55) dX8_init_84 (by decide) ?_
          refine v_sg (in2_S (by omega)).symm ?_
          exact ih (by omega)
      refine v_sg in2_0 ?_
      exact LP55 0 (Nat.zero_le _)
    ·
      refine v_aload_n dX8_init_38 rfl ?_
      refine v_get 0 dX8_init_39 FTX8 (by decide) rfl fl_X8_7 (hM.st _).1 rfl ?_
      refine v_iload_n dX8_init_42 rfl ?_
      refine v_iload_n dX8_init_43 rfl ?_
      refine v_iconst (v := nI 4) dX8_init_44 (by decide) ?_
      refine v_irem dX8_init_45 (by decide) ?_
      rw [nI_mod4 (by omega)]
      refine v_iast _ dX8_init_46 (hM.st _).2.1 rfl (by omega) (by decide) ?_
      refine v_eqw (wu_wu _ _ _ _).symm ?_
      refine v_iincN dX8_init_47 (by decide) rfl rfl rfl ?_
      refine v_goto (tgt := 32) dX8_init_50 (by decide) ?_
      refine v_sg (in1_S i).symm ?_
      exact ih (by omega)
  refine v_sg in1_0 ?_
  exact LP32 0 (Nat.zero_le _)
