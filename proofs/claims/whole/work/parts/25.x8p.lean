/-- where the rewrite of the number x is -/
def plO (σ : Nat → Int32) (x : Int32) : Option Nat := lsO (fun k => decide (0 ≤ x) && σ (1808 + 65 * k) == x) 16
theorem c_plO {w : Wd} {o ns tn : Nat} {kp : Int32} {σ tx cm : Nat → Int32} (hM : MW w o ns tn kp σ tx cm) (x : Int32) : Rd mX8_placeOf 1 [.ref o, .int x] w (some (.int (oI (plO σ x)))) := by
  have c := c_placeOf hM x
  rw [lst_eq] at c
  exact c
theorem plO_some {σ : Nat → Int32} {x : Int32} {k : Nat} (h : plO σ x = some k) : k < 16 ∧ 0 ≤ x ∧ σ (1808 + 65 * k) = x := by
  have h1 := lsO_some h
  have h2 := h1.2
  simp at h2
  exact ⟨h1.1, h2.1, h2.2⟩
theorem WS.rw {σ : Nat → Int32} {k : Nat} (h : WS σ) (hk : k < 16) (h0 : 0 ≤ σ (1808 + 65 * k)) : rwk σ k := by
  rcases h.2.2.2.2.2.2 k hk with e | e
  · rw [e] at h0
    exact absurd h0 (by decide)
  · exact e
/-- the vote cell of the visitor v for the rewrite in place k -/
def vcl (σ : Nat → Int32) (v k : Nat) : Nat := 32 + 24 * v + nt (σ (1808 + 65 * k + 1))
def voteR (σ : Nat → Int32) (ns : Nat) (v x : Int32) (t : Bool) : An := if inB v 9 = true then
    match plO σ x with
    | none => (-1, ns, σ)
    | some k => if σ (1808 + 65 * k + 2) = v then (-4, ns, σ) else if decide (σ (vcl σ (nt v) k) = x) = t then (-5, ns, σ) else (nI (vf (upd (rcS σ ns) (vcl σ (nt v) k) (if t = true then x else -1)) x), rcn ns, upd (rcS σ ns) (vcl σ (nt v) k) (if t = true then x else -1)) else (-1, ns, σ)
set_option maxHeartbeats 4000000 in
set_option maxRecDepth 100000 in
theorem c_vote0 {w : Wd} {o ns tn : Nat} {kp : Int32} {σ tx cm : Nat → Int32} (hM : MW w o ns tn kp σ tx cm) (v x : Int32) (t : Bool) (h : inB v 9 = false) : Wr mX8_vote 2 [.ref o, .int v, .int x, .int (b2i t)] w (AnQ w o tn kp tx cm (voteR σ ns v x t)) := by
  intro sz
  refine Ev.ofV [some (.ref o), some (.int v), some (.int x), some (.int (b2i t)), none, none, none] (by decide) (Nat.le_of_ble_eq_true rfl) rfl rfl rfl ?_
  refine v_aload_n dX8_vote_0 rfl ?_
  refine v_iload_n dX8_vote_1 rfl ?_
  refine u_rV1 oX8_placeOf dX8_vote_2 ml_X8_101 (c_plO hM x) hM.1 (by decide) (Nat.le_of_ble_eq_true rfl) (Nat.le_refl _) (Nat.le_refl _) ?_
  refine v_istore dX8_vote_5 (by decide) rfl ?_
  refine v_iload_n dX8_vote_7 rfl ?_
  refine v_iconst (v := nI 0) dX8_vote_8 (by decide) ?_
  refine v_bipush (v := nI 9) dX8_vote_9 (by decide) ?_
  refine u_rS3 oX8_in dX8_vote_11 ml_X8_59 (c_inB v 9) (by decide) (Nat.le_of_ble_eq_true rfl) (Nat.le_refl _) (Nat.le_refl _) ?_
  refine v_if_eqB (tgt := 22) dX8_vote_14 (by decide) (fun b14 => ?_) (fun b14 => ?_)
  ·
    refine v_iconst (v := -1) dX8_vote_22 (by decide) ?_
    refine v_iret dX8_vote_23 rfl (Nat.le_refl _) (Nat.le_refl _) ?_
    have e : voteR σ ns v x t = (-1, ns, σ) := by
      unfold voteR
      rw [if_neg (by rw [h]; decide)]
    rw [e]
    exact ⟨rfl, rfl, hM, frO.rf o w⟩
  ·
    exact absurd b14 (by rw [h]; decide)
set_option maxHeartbeats 4000000 in
set_option maxRecDepth 100000 in
theorem c_voteN0 {w : Wd} {o ns tn : Nat} {kp : Int32} {σ tx cm : Nat → Int32} (hM : MW w o ns tn kp σ tx cm) (a : Nat) (ha : a < 10) (x : Int32) (t : Bool) (hp : plO σ x = none) : Wr mX8_vote 2 [.ref o, .int (nI a), .int x, .int (b2i t)] w (AnQ w o tn kp tx cm (voteR σ ns (nI a) x t)) := by
  intro sz
  refine Ev.ofV [some (.ref o), some (.int (nI a)), some (.int x), some (.int (b2i t)), none, none, none] (by decide) (Nat.le_of_ble_eq_true rfl) rfl rfl rfl ?_
  have hga : inB (nI a) 9 = true := by rw [inB_nI (by omega) (by omega)]; simp; omega
  have cp := c_plO hM x
  rw [hp] at cp
  have cp : Rd mX8_placeOf 1 [.ref o, .int x] w (some (.int (-1))) := cp
  refine v_aload_n dX8_vote_0 rfl ?_
  refine v_iload_n dX8_vote_1 rfl ?_
  refine u_rV1 oX8_placeOf dX8_vote_2 ml_X8_101 cp hM.1 (by decide) (Nat.le_of_ble_eq_true rfl) (Nat.le_refl _) (Nat.le_refl _) ?_
  refine v_istore dX8_vote_5 (by decide) rfl ?_
  refine v_iload_n dX8_vote_7 rfl ?_
  refine v_iconst (v := nI 0) dX8_vote_8 (by decide) ?_
  refine v_bipush (v := nI 9) dX8_vote_9 (by decide) ?_
  refine u_rS3 oX8_in dX8_vote_11 ml_X8_59 (c_inB (nI a) 9) (by decide) (Nat.le_of_ble_eq_true rfl) (Nat.le_refl _) (Nat.le_refl _) ?_
  refine v_if_eqB (tgt := 22) dX8_vote_14 (by decide) (fun b14 => ?_) (fun b14 => ?_)
  ·
    exact absurd hga (by rw [b14]; decide)
  ·
    refine v_iload dX8_vote_17 rfl ?_
    refine v_if_ge (tgt := 24) dX8_vote_19 (by decide) (fun b19 => ?_) (fun b19 => ?_)
    ·
      exact absurd b19 (by decide)
    ·
      refine v_iconst (v := -1) dX8_vote_22 (by decide) ?_
      refine v_iret dX8_vote_23 rfl (Nat.le_refl _) (Nat.le_refl _) ?_
      have e : voteR σ ns (nI a) x t = (-1, ns, σ) := by
        unfold voteR
        rw [if_pos hga, hp]
      rw [e]
      exact ⟨rfl, rfl, hM, frO.rf o w⟩
set_option maxHeartbeats 4000000 in
set_option maxRecDepth 100000 in
theorem c_voteN1 {w : Wd} {o ns tn : Nat} {kp : Int32} {σ tx cm : Nat → Int32} (hM : MW w o ns tn kp σ tx cm) (hns : ns ≤ 4) (hW : WS σ) (a : Nat) (ha : a < 10) (x : Int32) (t : Bool) (k : Nat) (hp : plO σ x = some k) : Wr mX8_vote 2 [.ref o, .int (nI a), .int x, .int (b2i t)] w (AnQ w o tn kp tx cm (voteR σ ns (nI a) x t)) := by
  intro sz
  refine Ev.ofV [some (.ref o), some (.int (nI a)), some (.int x), some (.int (b2i t)), none, none, none] (by decide) (Nat.le_of_ble_eq_true rfl) rfl rfl rfl ?_
  have hga : inB (nI a) 9 = true := by rw [inB_nI (by omega) (by omega)]; simp; omega
  have hps := plO_some hp
  have hr := hW.rw hps.1 (by rw [hps.2.2]; exact hps.2.1)
  have hk := hps.1
  have cp := c_plO hM x
  rw [hp] at cp
  have cp : Rd mX8_placeOf 1 [.ref o, .int x] w (some (.int (nI k))) := cp
  refine v_aload_n dX8_vote_0 rfl ?_
  refine v_iload_n dX8_vote_1 rfl ?_
  refine u_rV1 oX8_placeOf dX8_vote_2 ml_X8_101 cp hM.1 (by decide) (Nat.le_of_ble_eq_true rfl) (Nat.le_refl _) (Nat.le_refl _) ?_
  refine v_istore dX8_vote_5 (by decide) rfl ?_
  refine v_iload_n dX8_vote_7 rfl ?_
  refine v_iconst (v := nI 0) dX8_vote_8 (by decide) ?_
  refine v_bipush (v := nI 9) dX8_vote_9 (by decide) ?_
  refine u_rS3 oX8_in dX8_vote_11 ml_X8_59 (c_inB (nI a) 9) (by decide) (Nat.le_of_ble_eq_true rfl) (Nat.le_refl _) (Nat.le_refl _) ?_
  refine v_if_eqB (tgt := 22) dX8_vote_14 (by decide) (fun b14 => ?_) (fun b14 => ?_)
  ·
    exact absurd hga (by rw [b14]; decide)
  ·
    refine v_iload dX8_vote_17 rfl ?_
    refine v_if_geN (tgt := 24) dX8_vote_19 (by decide) (by omega) ?_
    refine v_iload dX8_vote_24 rfl ?_
    refine u_rS1 oX8_paper dX8_vote_26 ml_X8_49 (c_paper k) (by decide) (Nat.le_of_ble_eq_true rfl) (Nat.le_refl _) (Nat.le_refl _) ?_
    refine v_istore dX8_vote_29 (by decide) rfl ?_
    refine v_aload_n dX8_vote_31 rfl ?_
    refine v_get 0 dX8_vote_32 FTX8 (by decide) rfl fl_X8_7 hM.1 rfl ?_
    refine v_iload dX8_vote_35 rfl ?_
    refine v_iconst (v := nI 2) dX8_vote_37 (by decide) ?_
    refine v_iaddN dX8_vote_38 ?_
    refine v_iald _ dX8_vote_39 hM.2.1 rfl (by omega) (by decide) ?_
    refine v_iload_n dX8_vote_40 rfl ?_
    refine v_icmp_ne (tgt := 47) dX8_vote_41 (by decide) (fun b41 => ?_) (fun b41 => ?_)
    ·
      refine v_bipush (v := nI 32) dX8_vote_47 (by decide) ?_
      refine v_bipush (v := nI 24) dX8_vote_49 (by decide) ?_
      refine v_iload_n dX8_vote_51 rfl ?_
      refine v_imulN dX8_vote_52 ?_
      refine v_iaddN dX8_vote_53 ?_
      refine v_aload_n dX8_vote_54 rfl ?_
      refine v_get 0 dX8_vote_55 FTX8 (by decide) rfl fl_X8_7 hM.1 rfl ?_
      refine v_iload dX8_vote_58 rfl ?_
      refine v_iconst (v := nI 1) dX8_vote_60 (by decide) ?_
      refine v_iaddN dX8_vote_61 ?_
      refine v_ialdN _ dX8_vote_62 hM.2.1 rfl (by omega) (by decide) hr.2.1.1 ?_
      refine v_iaddN dX8_vote_63 ?_
      refine v_istore dX8_vote_64 (by decide) rfl ?_
      refine v_aload_n dX8_vote_66 rfl ?_
      refine v_get 0 dX8_vote_67 FTX8 (by decide) rfl fl_X8_7 hM.1 rfl ?_
      refine v_iload dX8_vote_70 rfl ?_
      refine v_iald _ dX8_vote_72 hM.2.1 rfl (by have := hr.2.1.2; omega) (by decide) ?_
      refine v_iload_n dX8_vote_73 rfl ?_
      refine v_icmp_ne (tgt := 81) dX8_vote_74 (by decide) (fun b74 => ?_) (fun b74 => ?_)
      ·
        have g1 : decide (σ (32 + 24 * a + nt (σ (1808 + 65 * k + 1))) = x) = false := by simp [b74]
        refine v_iconst (v := nI 0) dX8_vote_81 (by decide) ?_
        refine v_iload_n dX8_vote_82 rfl ?_
        refine v_icmp_ne (tgt := 89) dX8_vote_83 (by decide) (fun b83 => ?_) (fun b83 => ?_)
        ·
          have g2 : ¬ decide (σ (vcl σ a k) = x) = t := by
            intro h9
            apply b83
            show _ = b2i t
            rw [← h9]
            show _ = b2i (decide (σ (32 + 24 * a + nt (σ (1808 + 65 * k + 1))) = x))
            rw [g1]
            rfl
          refine v_aload_n dX8_vote_89 rfl ?_
          refine v_wV0 oX8_records dX8_vote_90 ml_X8_63 (c_records hM hns) hM.1 (by decide) (Nat.le_of_ble_eq_true rfl) (Nat.le_refl _) (Nat.le_refl _) (fun r' w1 hq => ?_)
          obtain ⟨rfl, h1, f1⟩ := hq
          obtain ⟨σ1, es⟩ : ∃ s, s = rcS σ ns := ⟨_, rfl⟩
          rw [← es] at h1
          refine v_eqw h1.self ?_
          refine v_aload_n dX8_vote_93 rfl ?_
          refine v_get 0 dX8_vote_94 FTX8 (by decide) rfl fl_X8_7 (h1.st _).1 rfl ?_
          refine v_iload dX8_vote_97 rfl ?_
          refine v_iload_n dX8_vote_99 rfl ?_
          refine v_if_eqB (tgt := 107) dX8_vote_100 (by decide) (fun b100 => ?_) (fun b100 => ?_)
          ·
            have hval : upd σ1 (vcl σ a k) (-1) = upd σ1 (vcl σ a k) (if t = true then x else -1) := by rw [if_neg (by rw [b100]; decide)]
            refine v_iconst (v := -1) dX8_vote_107 (by decide) ?_
            refine v_iast _ dX8_vote_108 (h1.st _).2.1 rfl (by have := hr.2.1.2; omega) (by decide) ?_
            refine v_eqw (wu_wu _ _ _ _).symm ?_
            refine v_sg hval.symm ?_
            refine v_aload_n dX8_vote_109 rfl ?_
            refine v_iload_n dX8_vote_110 rfl ?_
            refine u_rV1 oX8_votesFor dX8_vote_111 ml_X8_53 (show Rd mX8_votesFor 0 _ _ (some (.int (nI (vf (upd σ1 (vcl σ a k) (if t = true then x else -1)) x)))) from c_votesFor (h1.st _) x) (h1.st _).1 (by decide) (Nat.le_of_ble_eq_true rfl) (Nat.le_refl _) (Nat.le_refl _) ?_
            refine v_iret dX8_vote_114 rfl (Nat.le_refl _) (Nat.le_refl _) ?_
            have e : voteR σ ns (nI a) x t = (nI (vf (upd σ1 (vcl σ a k) (if t = true then x else -1)) x), rcn ns, upd σ1 (vcl σ a k) (if t = true then x else -1)) := by
              subst es
              unfold voteR
              rw [if_pos hga, hp, nt_nI (by omega)]
              show (if _ then _ else _) = _
              rw [if_neg b41, if_neg g2]
            rw [e]
            exact ⟨rfl, rfl, h1.st _, f1.wu _ (by omega) (by omega)⟩
          ·
            have hval : upd σ1 (vcl σ a k) x = upd σ1 (vcl σ a k) (if t = true then x else -1) := by rw [if_pos b100]
            refine v_iload_n dX8_vote_103 rfl ?_
            refine v_goto (tgt := 108) dX8_vote_104 (by decide) ?_
            refine v_iast _ dX8_vote_108 (h1.st _).2.1 rfl (by have := hr.2.1.2; omega) (by decide) ?_
            refine v_eqw (wu_wu _ _ _ _).symm ?_
            refine v_sg hval.symm ?_
            refine v_aload_n dX8_vote_109 rfl ?_
            refine v_iload_n dX8_vote_110 rfl ?_
            refine u_rV1 oX8_votesFor dX8_vote_111 ml_X8_53 (show Rd mX8_votesFor 0 _ _ (some (.int (nI (vf (upd σ1 (vcl σ a k) (if t = true then x else -1)) x)))) from c_votesFor (h1.st _) x) (h1.st _).1 (by decide) (Nat.le_of_ble_eq_true rfl) (Nat.le_refl _) (Nat.le_refl _) ?_
            refine v_iret dX8_vote_114 rfl (Nat.le_refl _) (Nat.le_refl _) ?_
            have e : voteR σ ns (nI a) x t = (nI (vf (upd σ1 (vcl σ a k) (if t = true then x else -1)) x), rcn ns, upd σ1 (vcl σ a k) (if t = true then x else -1)) := by
              subst es
              unfold voteR
              rw [if_pos hga, hp, nt_nI (by omega)]
              show (if _ then _ else _) = _
              rw [if_neg b41, if_neg g2]
            rw [e]
            exact ⟨rfl, rfl, h1.st _, f1.wu _ (by omega) (by omega)⟩
        ·
          have g2 : decide (σ (vcl σ a k) = x) = t := by
            apply b2i_inj
            rw [← b83]
            show b2i (decide (σ (32 + 24 * a + nt (σ (1808 + 65 * k + 1))) = x)) = _
            rw [g1]
            rfl
          refine v_bipush (v := -5) dX8_vote_86 (by decide) ?_
          refine v_iret dX8_vote_88 rfl (Nat.le_refl _) (Nat.le_refl _) ?_
          have e : voteR σ ns (nI a) x t = (-5, ns, σ) := by
            unfold voteR
            rw [if_pos hga, hp, nt_nI (by omega)]
            show (if _ then _ else _) = _
            rw [if_neg b41, if_pos g2]
          rw [e]
          exact ⟨rfl, rfl, hM, frO.rf o w⟩
      ·
        have g1 : decide (σ (32 + 24 * a + nt (σ (1808 + 65 * k + 1))) = x) = true := by simp [b74]
        refine v_iconst (v := nI 1) dX8_vote_77 (by decide) ?_
        refine v_goto (tgt := 82) dX8_vote_78 (by decide) ?_
        refine v_iload_n dX8_vote_82 rfl ?_
        refine v_icmp_ne (tgt := 89) dX8_vote_83 (by decide) (fun b83 => ?_) (fun b83 => ?_)
        ·
          have g2 : ¬ decide (σ (vcl σ a k) = x) = t := by
            intro h9
            apply b83
            show _ = b2i t
            rw [← h9]
            show _ = b2i (decide (σ (32 + 24 * a + nt (σ (1808 + 65 * k + 1))) = x))
            rw [g1]
            rfl
          refine v_aload_n dX8_vote_89 rfl ?_
          refine v_wV0 oX8_records dX8_vote_90 ml_X8_63 (c_records hM hns) hM.1 (by decide) (Nat.le_of_ble_eq_true rfl) (Nat.le_refl _) (Nat.le_refl _) (fun r' w1 hq => ?_)
          obtain ⟨rfl, h1, f1⟩ := hq
          obtain ⟨σ1, es⟩ : ∃ s, s = rcS σ ns := ⟨_, rfl⟩
          rw [← es] at h1
          refine v_eqw h1.self ?_
          refine v_aload_n dX8_vote_93 rfl ?_
          refine v_get 0 dX8_vote_94 FTX8 (by decide) rfl fl_X8_7 (h1.st _).1 rfl ?_
          refine v_iload dX8_vote_97 rfl ?_
          refine v_iload_n dX8_vote_99 rfl ?_
          refine v_if_eqB (tgt := 107) dX8_vote_100 (by decide) (fun b100 => ?_) (fun b100 => ?_)
          ·
            have hval : upd σ1 (vcl σ a k) (-1) = upd σ1 (vcl σ a k) (if t = true then x else -1) := by rw [if_neg (by rw [b100]; decide)]
            refine v_iconst (v := -1) dX8_vote_107 (by decide) ?_
            refine v_iast _ dX8_vote_108 (h1.st _).2.1 rfl (by have := hr.2.1.2; omega) (by decide) ?_
            refine v_eqw (wu_wu _ _ _ _).symm ?_
            refine v_sg hval.symm ?_
            refine v_aload_n dX8_vote_109 rfl ?_
            refine v_iload_n dX8_vote_110 rfl ?_
            refine u_rV1 oX8_votesFor dX8_vote_111 ml_X8_53 (show Rd mX8_votesFor 0 _ _ (some (.int (nI (vf (upd σ1 (vcl σ a k) (if t = true then x else -1)) x)))) from c_votesFor (h1.st _) x) (h1.st _).1 (by decide) (Nat.le_of_ble_eq_true rfl) (Nat.le_refl _) (Nat.le_refl _) ?_
            refine v_iret dX8_vote_114 rfl (Nat.le_refl _) (Nat.le_refl _) ?_
            have e : voteR σ ns (nI a) x t = (nI (vf (upd σ1 (vcl σ a k) (if t = true then x else -1)) x), rcn ns, upd σ1 (vcl σ a k) (if t = true then x else -1)) := by
              subst es
              unfold voteR
              rw [if_pos hga, hp, nt_nI (by omega)]
              show (if _ then _ else _) = _
              rw [if_neg b41, if_neg g2]
            rw [e]
            exact ⟨rfl, rfl, h1.st _, f1.wu _ (by omega) (by omega)⟩
          ·
            have hval : upd σ1 (vcl σ a k) x = upd σ1 (vcl σ a k) (if t = true then x else -1) := by rw [if_pos b100]
            refine v_iload_n dX8_vote_103 rfl ?_
            refine v_goto (tgt := 108) dX8_vote_104 (by decide) ?_
            refine v_iast _ dX8_vote_108 (h1.st _).2.1 rfl (by have := hr.2.1.2; omega) (by decide) ?_
            refine v_eqw (wu_wu _ _ _ _).symm ?_
            refine v_sg hval.symm ?_
            refine v_aload_n dX8_vote_109 rfl ?_
            refine v_iload_n dX8_vote_110 rfl ?_
            refine u_rV1 oX8_votesFor dX8_vote_111 ml_X8_53 (show Rd mX8_votesFor 0 _ _ (some (.int (nI (vf (upd σ1 (vcl σ a k) (if t = true then x else -1)) x)))) from c_votesFor (h1.st _) x) (h1.st _).1 (by decide) (Nat.le_of_ble_eq_true rfl) (Nat.le_refl _) (Nat.le_refl _) ?_
            refine v_iret dX8_vote_114 rfl (Nat.le_refl _) (Nat.le_refl _) ?_
            have e : voteR σ ns (nI a) x t = (nI (vf (upd σ1 (vcl σ a k) (if t = true then x else -1)) x), rcn ns, upd σ1 (vcl σ a k) (if t = true then x else -1)) := by
              subst es
              unfold voteR
              rw [if_pos hga, hp, nt_nI (by omega)]
              show (if _ then _ else _) = _
              rw [if_neg b41, if_neg g2]
            rw [e]
            exact ⟨rfl, rfl, h1.st _, f1.wu _ (by omega) (by omega)⟩
        ·
          have g2 : decide (σ (vcl σ a k) = x) = t := by
            apply b2i_inj
            rw [← b83]
            show b2i (decide (σ (32 + 24 * a + nt (σ (1808 + 65 * k + 1))) = x)) = _
            rw [g1]
            rfl
          refine v_bipush (v := -5) dX8_vote_86 (by decide) ?_
          refine v_iret dX8_vote_88 rfl (Nat.le_refl _) (Nat.le_refl _) ?_
          have e : voteR σ ns (nI a) x t = (-5, ns, σ) := by
            unfold voteR
            rw [if_pos hga, hp, nt_nI (by omega)]
            show (if _ then _ else _) = _
            rw [if_neg b41, if_pos g2]
          rw [e]
          exact ⟨rfl, rfl, hM, frO.rf o w⟩
    ·
      refine v_bipush (v := -4) dX8_vote_44 (by decide) ?_
      refine v_iret dX8_vote_46 rfl (Nat.le_refl _) (Nat.le_refl _) ?_
      have e : voteR σ ns (nI a) x t = (-4, ns, σ) := by
        unfold voteR
        rw [if_pos hga, hp, nt_nI (by omega)]
        show (if _ then _ else _) = _
        rw [if_pos b41]
      rw [e]
      exact ⟨rfl, rfl, hM, frO.rf o w⟩
theorem c_vote {w : Wd} {o ns tn : Nat} {kp : Int32} {σ tx cm : Nat → Int32} (hM : MW w o ns tn kp σ tx cm) (hns : ns ≤ 4) (hW : WS σ) (v x : Int32) (t : Bool) : Wr mX8_vote 2 [.ref o, .int v, .int x, .int (b2i t)] w (AnQ w o tn kp tx cm (voteR σ ns v x t)) := by
  by_cases h : inB v 9 = false
  · exact c_vote0 hM v x t h
  · have hx := inB_ub (by omega) (bfalse h)
    rw [hx.1]
    cases hp : plO σ x with
    | none => exact c_voteN0 hM (nt v) hx.2 x t hp
    | some k => exact c_voteN1 hM hns hW (nt v) hx.2 x t k hp
