set_option maxHeartbeats 1000000 in
set_option maxRecDepth 100000 in
theorem c_scopy {w : Wd} {S T : Nat} {g0 g : Nat → Int32} (h : SR w S g0) (hT : SR w T g) (hd : T + 168 ≤ S ∨ S + 168 ≤ T) : Wr mX4_copyFrom 4 [.ref S, .ref T] w (fun r' w' => r' = none ∧ SR w' S g ∧ fr S 168 w w') := by
  intro sz
  refine Ev.ofV [some (.ref S), some (.ref T), none] (by decide) (Nat.le_of_ble_eq_true rfl) rfl rfl rfl ?_
  have h0 := h
  obtain ⟨hB, ⟨n, π, κ, hRS⟩, hW, hI, hO⟩ := h0
  obtain ⟨s1, ⟨li, s2, s2b⟩, ⟨ak, s3, s3b⟩, ⟨ro, s4, s4b⟩, ⟨ac, s5, s5b⟩, ⟨lf, s6, s6b⟩, s7⟩ := hB
  have hT0 := hT
  obtain ⟨hBT, ⟨m, π2, κ2, hRT⟩, hWT, hIT, hOT⟩ := hT0
  obtain ⟨t1, ⟨liT, t2, t2b⟩, ⟨akT, t3, t3b⟩, ⟨roT, t4, t4b⟩, ⟨acT, t5, t5b⟩, ⟨lfT, t6, t6b⟩, t7⟩ := hBT
  refine v_aload_n dX4_copyFrom_0 rfl ?_
  refine v_get 0 dX4_copyFrom_1 FTX4 (by decide) rfl fl_X4_9 t1 rfl ?_
  refine v_iconst (v := nI 0) dX4_copyFrom_4 (by decide) ?_
  refine v_aload_n dX4_copyFrom_5 rfl ?_
  refine v_get 0 dX4_copyFrom_6 FTX4 (by decide) rfl fl_X4_9 s1 rfl ?_
  refine v_iconst (v := nI 0) dX4_copyFrom_9 (by decide) ?_
  refine v_iconst (v := nI 4) dX4_copyFrom_10 (by decide) ?_
  refine v_copy (t := 1) (n := 4) (by decide) dX4_copyFrom_11 ml_X4_48 t2 s2 (by omega) (by omega) (by decide) (fun i hi => rfl) (by decide) (Nat.le_of_ble_eq_true rfl) ?_
  refine v_aload_n dX4_copyFrom_14 rfl ?_
  refine v_get 1 dX4_copyFrom_15 FTX4 (by decide) rfl fl_X4_15 ((wu_ne _ _ (by omega)).trans t1) rfl ?_
  refine v_iconst (v := nI 0) dX4_copyFrom_18 (by decide) ?_
  refine v_aload_n dX4_copyFrom_19 rfl ?_
  refine v_get 1 dX4_copyFrom_20 FTX4 (by decide) rfl fl_X4_15 ((wu_ne _ _ (by omega)).trans s1) rfl ?_
  refine v_iconst (v := nI 0) dX4_copyFrom_23 (by decide) ?_
  refine v_iconst (v := nI 4) dX4_copyFrom_24 (by decide) ?_
  refine v_copy (t := 1) (n := 4) (by decide) dX4_copyFrom_25 ml_X4_48 ((wu_ne _ _ (by omega)).trans t3) ((wu_ne _ _ (by omega)).trans s3) (by omega) (by omega) (by decide) (fun i hi => rfl) (by decide) (Nat.le_of_ble_eq_true rfl) ?_
  refine v_aload_n dX4_copyFrom_28 rfl ?_
  refine v_get 2 dX4_copyFrom_29 FTX4 (by decide) rfl fl_X4_18 ((wu_ne _ _ (by omega)).trans ((wu_ne _ _ (by omega)).trans t1)) rfl ?_
  refine v_iconst (v := nI 0) dX4_copyFrom_32 (by decide) ?_
  refine v_aload_n dX4_copyFrom_33 rfl ?_
  refine v_get 2 dX4_copyFrom_34 FTX4 (by decide) rfl fl_X4_18 ((wu_ne _ _ (by omega)).trans ((wu_ne _ _ (by omega)).trans s1)) rfl ?_
  refine v_iconst (v := nI 0) dX4_copyFrom_37 (by decide) ?_
  refine v_bipush (v := nI 8) dX4_copyFrom_38 (by decide) ?_
  refine v_copy (t := 1) (n := 8) (by decide) dX4_copyFrom_40 ml_X4_48 ((wu_ne _ _ (by omega)).trans ((wu_ne _ _ (by omega)).trans t4)) ((wu_ne _ _ (by omega)).trans ((wu_ne _ _ (by omega)).trans s4)) (by omega) (by omega) (by decide) (fun i hi => rfl) (by decide) (Nat.le_of_ble_eq_true rfl) ?_
  refine v_aload_n dX4_copyFrom_43 rfl ?_
  refine v_get 3 dX4_copyFrom_44 FTX4 (by decide) rfl fl_X4_21 ((wu_ne _ _ (by omega)).trans ((wu_ne _ _ (by omega)).trans ((wu_ne _ _ (by omega)).trans t1))) rfl ?_
  refine v_iconst (v := nI 0) dX4_copyFrom_47 (by decide) ?_
  refine v_aload_n dX4_copyFrom_48 rfl ?_
  refine v_get 3 dX4_copyFrom_49 FTX4 (by decide) rfl fl_X4_21 ((wu_ne _ _ (by omega)).trans ((wu_ne _ _ (by omega)).trans ((wu_ne _ _ (by omega)).trans s1))) rfl ?_
  refine v_iconst (v := nI 0) dX4_copyFrom_52 (by decide) ?_
  refine v_bipush (v := nI 10) dX4_copyFrom_53 (by decide) ?_
  refine v_copy (t := 1) (n := 10) (by decide) dX4_copyFrom_55 ml_X4_48 ((wu_ne _ _ (by omega)).trans ((wu_ne _ _ (by omega)).trans ((wu_ne _ _ (by omega)).trans t5))) ((wu_ne _ _ (by omega)).trans ((wu_ne _ _ (by omega)).trans ((wu_ne _ _ (by omega)).trans s5))) (by omega) (by omega) (by decide) (fun i hi => rfl) (by decide) (Nat.le_of_ble_eq_true rfl) ?_
  refine v_gen (fun w' => (∃ li, w' (S + 1) = some (ia 1 4 li) ∧ ∀ r, r < 4 → li r = g (12 + r)) ∧ (∃ ak, w' (S + 2) = some (ia 1 4 ak) ∧ ∀ r, r < 4 → ak r = g (8 + r)) ∧ (∃ ro, w' (S + 3) = some (ia 1 8 ro) ∧ ∀ a, a < 8 → ro a = g a) ∧ (∃ ac, w' (S + 4) = some (ia 1 10 ac) ∧ ∀ v, v < 10 → ac v = g (22 + v)) ∧ ∀ q, (q < S + 1 ∨ S + 5 ≤ q) → w' q = w q) ⟨⟨_, (wu_ne _ _ (by omega)).trans ((wu_ne _ _ (by omega)).trans ((wu_ne _ _ (by omega)).trans (wu_eq _ _ _))), fun r hr => by
      show (if r < 4 then _ else _) = _
      rw [if_pos hr]
      exact t2b r hr⟩, ⟨_, (wu_ne _ _ (by omega)).trans ((wu_ne _ _ (by omega)).trans (wu_eq _ _ _)), fun r hr => by
      show (if r < 4 then _ else _) = _
      rw [if_pos hr]
      exact t3b r hr⟩, ⟨_, (wu_ne _ _ (by omega)).trans (wu_eq _ _ _), fun r hr => by
      show (if r < 8 then _ else _) = _
      rw [if_pos hr]
      exact t4b r hr⟩, ⟨_, wu_eq _ _ _, fun r hr => by
      show (if r < 10 then _ else _) = _
      rw [if_pos hr]
      exact t5b r hr⟩, fun q hq => by rw [wu_ne _ _ (by omega), wu_ne _ _ (by omega), wu_ne _ _ (by omega), wu_ne _ _ (by omega)]⟩ (fun w1 hw1 => ?_)
  obtain ⟨a1, a2, a3, a4, a5⟩ := hw1
  refine v_iconst (v := nI 0) dX4_copyFrom_58 (by decide) ?_
  refine v_istore_n dX4_copyFrom_59 (by decide) rfl ?_
  have LP60 : ∀ i, i ≤ 24 → ∀ w2 : Wd, ((∀ p, p < 24 → LbR w2 (S + 72 + 4 * p) (if p < i then g else g0) p) ∧ ∀ q, (q < S + 72 ∨ S + 168 ≤ q) → w2 q = w1 q) → V mX4_copyFrom 4 0 0 (fun r' w' zz => zz = sz ∧ (r' = none ∧ SR w' S g ∧ fr S 168 w w')) (w2) (sz) (0) (0) [some (.ref S), some (.ref T), some (.int (nI i))] [] 60 := by
    refine dn (fun i hi ih => ?_)
    intro w2 hI2
    obtain ⟨k1, k2⟩ := hI2
    refine v_iload_n dX4_copyFrom_60 rfl ?_
    refine v_bipush (v := nI 24) dX4_copyFrom_61 (by decide) ?_
    refine v_icmp_geN (tgt := 87) dX4_copyFrom_63 (by decide) (by omega) (by omega) (fun b63 => ?_) (fun b63 => ?_)
    ·
      have e1 : i = 24 := by omega
      subst e1
      have hR2 := hRS.fr (w' := w2) (fun q h1 h2 => (k2 q (by omega)).trans (a5 q (by omega)))
      have hRT2 := hRT.fr (w' := w2) (fun q h1 h2 => (k2 q (by omega)).trans (a5 q (by omega)))
      refine v_aload_n dX4_copyFrom_87 rfl ?_
      refine v_get 5 dX4_copyFrom_88 FTX4 (by decide) rfl fl_X4_33 ((k2 _ (by omega)).trans ((a5 _ (by omega)).trans s1)) rfl ?_
      refine v_aload_n dX4_copyFrom_91 rfl ?_
      refine v_get 5 dX4_copyFrom_92 FTX4 (by decide) rfl fl_X4_33 ((k2 _ (by omega)).trans ((a5 _ (by omega)).trans t1)) rfl ?_
      refine v_wV1 oX3_copyFrom dX4_copyFrom_95 ml_X4_58 (c_rcopy3 hR2 hRT2 (by omega)) hR2.1.choose_spec.1 (by decide) (Nat.le_of_ble_eq_true rfl) (Nat.le_refl _) (Nat.le_refl _) (fun r' w3 hq => ?_)
      obtain ⟨rfl, q1, q2⟩ := hq
      have dB : SBx w3 S g (g0 16) (g0 17) (g0 19) (g0 20) (g0 21) := by
        have e : ∀ q, (q < S + 1 ∨ (S + 5 ≤ q ∧ q < S + 6) ∨ S + 168 ≤ q) → w3 q = w q := fun q hq => (q2 q (by omega)).trans ((k2 q (by omega)).trans (a5 q (by omega)))
        obtain ⟨li2, u2, u2b⟩ := a1
        obtain ⟨ak2, u3, u3b⟩ := a2
        obtain ⟨ro2, u4, u4b⟩ := a3
        obtain ⟨ac2, u5, u5b⟩ := a4
        have e4 : ∀ q, S + 1 ≤ q → q < S + 5 → w3 q = w1 q := fun q h1 h2 => (q2 q (by omega)).trans (k2 q (by omega))
        refine ⟨(e _ (by omega)).trans s1, ⟨li2, (e4 _ (by omega) (by omega)).trans u2, u2b⟩, ⟨ak2, (e4 _ (by omega) (by omega)).trans u3, u3b⟩, ⟨ro2, (e4 _ (by omega) (by omega)).trans u4, u4b⟩, ⟨ac2, (e4 _ (by omega) (by omega)).trans u5, u5b⟩, ⟨lf, (e _ (by omega)).trans s6, s6b⟩, fun p hp => ?_⟩
        have := k1 p hp
        rw [if_pos (by omega)] at this
        exact this.fr (fun q h1 h2 => q2 q (by omega))
      have eT : ∀ q, T ≤ q → q < T + 168 → w3 q = w q := fun q h1 h2 => (q2 q (by omega)).trans ((k2 q (by omega)).trans (a5 q (by omega)))
      have f3 : fr S 168 w w3 := fun q hq => (q2 q (by omega)).trans ((k2 q (by omega)).trans (a5 q (by omega)))
      have tw := (eT T (by omega) (by omega)).trans t1
      refine v_aload_n dX4_copyFrom_98 rfl ?_
      refine v_aload_n dX4_copyFrom_99 rfl ?_
      refine v_get 6 dX4_copyFrom_100 FTX4 (by decide) rfl fl_X4_37 tw rfl ?_
      refine v_put 6 dX4_copyFrom_103 FTX4 (by decide) rfl fl_X4_37 dB.1 rfl rfl (Nat.le_of_ble_eq_true rfl) rfl ?_
      have d0 := SBx_set dB (g 16) (g0 17) (g0 19) (g0 20) (g0 21)
      refine v_aload_n dX4_copyFrom_106 rfl ?_
      refine v_aload_n dX4_copyFrom_107 rfl ?_
      refine v_get 7 dX4_copyFrom_108 FTX4 (by decide) rfl fl_X4_61 ((wu_ne _ _ (by omega)).trans tw) rfl ?_
      refine v_put 7 dX4_copyFrom_111 FTX4 (by decide) rfl fl_X4_61 d0.1 rfl rfl (Nat.le_of_ble_eq_true rfl) rfl ?_
      have d1 := SBx_set d0 (g 16) (g 17) (g0 19) (g0 20) (g0 21)
      refine v_aload_n dX4_copyFrom_114 rfl ?_
      refine v_aload_n dX4_copyFrom_115 rfl ?_
      refine v_get 8 dX4_copyFrom_116 FTX4 (by decide) rfl fl_X4_64 ((wu_ne _ _ (by omega)).trans ((wu_ne _ _ (by omega)).trans tw)) rfl ?_
      refine v_put 8 dX4_copyFrom_119 FTX4 (by decide) rfl fl_X4_64 d1.1 rfl rfl (Nat.le_of_ble_eq_true rfl) rfl ?_
      have d2 := SBx_set d1 (g 16) (g 17) (g 19) (g0 20) (g0 21)
      refine v_aload_n dX4_copyFrom_122 rfl ?_
      refine v_aload_n dX4_copyFrom_123 rfl ?_
      refine v_get 9 dX4_copyFrom_124 FTX4 (by decide) rfl fl_X4_67 ((wu_ne _ _ (by omega)).trans ((wu_ne _ _ (by omega)).trans ((wu_ne _ _ (by omega)).trans tw))) rfl ?_
      refine v_put 9 dX4_copyFrom_127 FTX4 (by decide) rfl fl_X4_67 d2.1 rfl rfl (Nat.le_of_ble_eq_true rfl) rfl ?_
      have d3 := SBx_set d2 (g 16) (g 17) (g 19) (g 20) (g0 21)
      refine v_aload_n dX4_copyFrom_130 rfl ?_
      refine v_aload_n dX4_copyFrom_131 rfl ?_
      refine v_get 10 dX4_copyFrom_132 FTX4 (by decide) rfl fl_X4_70 ((wu_ne _ _ (by omega)).trans ((wu_ne _ _ (by omega)).trans ((wu_ne _ _ (by omega)).trans ((wu_ne _ _ (by omega)).trans tw)))) rfl ?_
      refine v_put 10 dX4_copyFrom_135 FTX4 (by decide) rfl fl_X4_70 d3.1 rfl rfl (Nat.le_of_ble_eq_true rfl) rfl ?_
      have d4 := SBx_set d3 (g 16) (g 17) (g 19) (g 20) (g 21)
      refine v_ret dX4_copyFrom_138 rfl (Nat.le_refl _) (Nat.le_refl _) ?_
      exact ⟨rfl, rfl, ⟨d4, ⟨_, _, _, q1.fr (fun q h1 h2 => by rw [wu_ne _ _ (by omega), wu_ne _ _ (by omega), wu_ne _ _ (by omega), wu_ne _ _ (by omega), wu_ne _ _ (by omega)])⟩, hWT, hIT, hOT⟩, ((((f3.wu _ (by omega) (by omega)).wu _ (by omega) (by omega)).wu _ (by omega) (by omega)).wu _ (by omega) (by omega)).wu _ (by omega) (by omega)⟩
    ·
      have hk := k1 i (by omega)
      rw [if_neg (Nat.lt_irrefl _)] at hk
      obtain ⟨vi, hl, hv⟩ := hk
      obtain ⟨vT, hlT, hvT⟩ := t7 i (by omega)
      refine v_aload_n dX4_copyFrom_66 rfl ?_
      refine v_get 4 dX4_copyFrom_67 FTX4 (by decide) rfl fl_X4_26 ((k2 _ (by omega)).trans ((a5 _ (by omega)).trans s1)) rfl ?_
      refine v_iload_n dX4_copyFrom_70 rfl ?_
      refine v_aald _ (by decide) dX4_copyFrom_71 ((k2 _ (by omega)).trans ((a5 _ (by omega)).trans s6)) rfl (by omega) (by decide) (s6b i (by omega)) ?_
      refine v_aload_n dX4_copyFrom_72 rfl ?_
      refine v_get 4 dX4_copyFrom_73 FTX4 (by decide) rfl fl_X4_26 ((k2 _ (by omega)).trans ((a5 _ (by omega)).trans t1)) rfl ?_
      refine v_iload_n dX4_copyFrom_76 rfl ?_
      refine v_aald _ (by decide) dX4_copyFrom_77 ((k2 _ (by omega)).trans ((a5 _ (by omega)).trans t6)) rfl (by omega) (by decide) (t6b i (by omega)) ?_
      refine v_wV1 oX1_copyFrom dX4_copyFrom_78 ml_X4_54 (c_lcopy hl (hlT.fr (fun q h1 h2 => (k2 q (by omega)).trans (a5 q (by omega)))) (by omega)) hl.1 (by decide) (Nat.le_of_ble_eq_true rfl) (Nat.le_refl _) (Nat.le_refl _) (fun r' w3 hq => ?_)
      obtain ⟨rfl, q1, q2⟩ := hq
      refine v_iincN dX4_copyFrom_81 (by decide) rfl rfl rfl ?_
      refine v_goto (tgt := 60) dX4_copyFrom_84 (by decide) ?_
      exact ih (by omega) w3 ⟨fun p hp => by
        by_cases z : p = i
        · rw [if_pos (by omega), z]
          exact ⟨_, q1, hvT⟩
        · have := (k1 p hp).fr (w' := w3) (fun q h1 h2 => q2 q (by omega))
          by_cases y : p < i
          · rw [if_pos y] at this
            rw [if_pos (by omega)]
            exact this
          · rw [if_neg y] at this
            rw [if_neg (by omega)]
            exact this, fun q hq => (q2 q (by omega)).trans (k2 q hq)⟩
  exact LP60 0 (Nat.zero_le _) w1 ⟨fun p hp => by rw [if_neg (Nat.not_lt_zero _)]; exact (s7 p hp).fr (fun q h1 h2 => a5 q (by omega)), fun _ _ => rfl⟩
theorem hnX4 : ∀ j, j < 11 → defaultValue (tyX4 j) = vp_V [.null, .null, .null, .null, .null, .null, .int 0, .int 0, .int 0, .int 0, .int 0] j := by decide
theorem in5_out : ∀ i q, (∀ k, k < i → q ≠ 1808 + 65 * k) → in5 i q = in4 240 q
  | 0, _, _ => rfl
  | i + 1, q, h => by
    have e : in5 (i + 1) = upd (in5 i) (1808 + 65 * i) (-1) := rfl
    rw [e, up_ne _ _ (h i (by omega))]
    exact in5_out i q (fun k hk => h k (by omega))
theorem in5_nu : ∀ i k, k < i → in5 i (1808 + 65 * k) = -1
  | 0, k, h => absurd h (Nat.not_lt_zero _)
  | i + 1, k, h => by
    have e : in5 (i + 1) = upd (in5 i) (1808 + 65 * i) (-1) := rfl
    rw [e]
    by_cases z : k = i
    · rw [z, up_eq]
    · rw [up_ne _ _ (by omega)]
      exact in5_nu i k (by omega)
theorem i0_a {a : Nat} (h : a < 8) : in5 16 a = nI (a % 4) := by
  rw [in5_out 16 a (fun k hk => by omega)]
  simp only [in4, upd, in2, in1]
  rw [if_neg (by omega), if_neg (by omega), if_neg (by omega), if_neg (by omega), if_pos h]
theorem i0_8 {r : Nat} (h : r < 4) : in5 16 (8 + r) = nI 1 := by
  rw [in5_out 16 (8 + r) (fun k hk => by omega)]
  simp only [in4, upd, in2, in1]
  rw [if_neg (by omega), if_neg (by omega), if_pos (by omega)]
theorem i0_12 {r : Nat} (h : r < 4) : in5 16 (12 + r) = nI 10 := by
  rw [in5_out 16 (12 + r) (fun k hk => by omega)]
  simp only [in4, upd, in2, in1]
  rw [if_neg (by omega), if_neg (by omega), if_neg (by omega), if_pos (by omega)]
theorem i0_16 : in5 16 16 = nI 2 := by
  rw [in5_out 16 16 (fun k hk => by omega)]
  simp only [in4, upd, in2, in1]
  rw [if_neg (by omega), if_pos trivial]
theorem i0_0 {q : Nat} (h : (17 ≤ q ∧ q < 32) ∨ (272 ≤ q ∧ q < 1808)) : in5 16 q = nI 0 := by
  rw [in5_out 16 q (fun k hk => by omega)]
  simp only [in4, upd, in2, in1]
  rw [if_neg (by omega), if_neg (by omega), if_neg (by omega), if_neg (by omega), if_neg (by omega)]
  rfl
theorem i0_v {q : Nat} (h : 32 ≤ q ∧ q < 272) : in5 16 q = -1 := by
  rw [in5_out 16 q (fun k hk => by omega)]
  simp only [in4]
  rw [if_pos (by omega)]
theorem WS_0 : WS (in5 16) := by
  refine ⟨fun a ha => ?_, fun r hr => ?_, fun r hr => ?_, ?_, ?_, fun p hp => ?_, fun k hk => Or.inl (in5_nu 16 k hk)⟩
  · rw [i0_a ha]; exact ub_nI (by omega) (by omega)
  · rw [i0_8 hr]; exact ub_nI (by omega) (by omega)
  · rw [i0_12 hr, nt_nI (by omega)]; exact ⟨ub_nI (by omega) (by omega), by omega⟩
  · rw [i0_16, nt_nI (by omega)]; exact ⟨ub_nI (by omega) (by omega), by omega⟩
  · rw [i0_0 (by omega)]; exact ub_nI (by omega) (by omega)
  · rw [i0_0 (by omega), nt_nI (by omega)]; exact ⟨ub_nI (by omega) (by omega), Or.inl rfl⟩
theorem VI_0 : VI (in5 16) := fun q hq => Or.inl (i0_v (by omega))
theorem OW_0 : OW (in5 16) := fun k j hk hj h0 => by
  rw [in5_nu 16 k hk] at h0
  exact absurd h0 (by decide)
def rof (i : Nat) : Nat → Int32 := fun q => if q < i then nI (q % 4) else 0
theorem rof_S (i : Nat) : upd (rof i) i (nI (i % 4)) = rof (i + 1) := by
  funext q
  simp only [upd, rof]
  by_cases e : q = i
  · subst e
    simp
  · rw [if_neg e]
    by_cases h : q < i
    · rw [if_pos h, if_pos (by omega)]
    · rw [if_neg h, if_neg (by omega)]
theorem LbR_0 {w : Wd} {A p : Nat} (hp : p < 24) (h : LO w A (-5) (nI 0) (nI 0) (fun _ => 0) 0) : LbR w A (in5 16) p := by
  unfold LbR
  rw [i0_0 (q := 272 + 64 * p) (by omega), i0_0 (q := 272 + 64 * p + 2) (by omega), i0_0 (q := 272 + 64 * p + 3) (by omega), nt_nI (by omega)]
  exact ⟨_, ⟨h.1, h.2.congr (fun k hk => absurd hk (Nat.not_lt_zero _))⟩, fun z => absurd z (Nat.lt_irrefl _)⟩
set_option maxHeartbeats 1000000 in
set_option maxRecDepth 100000 in
theorem c_X4init {w : Wd} {S : Nat} (h0 : w S = some (ob 4 [.null, .null, .null, .null, .null, .null, .int 0, .int 0, .int 0, .int 0, .int 0])) : Ev mX4_init 4 [.ref S] w (S + 1) 167 4061 (fun r' w' zz => r' = none ∧ zz = S + 168 ∧ SR w' S (in5 16) ∧ fr S 168 w w') := by
  refine Ev.ofV [some (.ref S), none] (by decide) (Nat.le_of_ble_eq_true rfl) rfl rfl rfl ?_
  refine v_aload_n dX4_init_0 rfl ?_
  refine v_objInit dX4_init_1 ml_X4_3 (by decide) (Nat.le_of_ble_eq_true rfl) ?_
  refine v_aload_n dX4_init_4 rfl ?_
  refine v_iconst (v := nI 4) dX4_init_5 (by decide) ?_
  refine v_newarr (t := 1) (by decide) dX4_init_6 rfl (by decide) (by omega) (by omega) ?_
  refine v_putF 0 dX4_init_8 FTX4 (by decide) rfl fl_X4_9 ((wu_ne _ _ (by omega)).trans h0) rfl rfl (Nat.le_of_ble_eq_true rfl) rfl rfl rfl ?_
  refine v_aload_n dX4_init_11 rfl ?_
  refine v_iconst (v := nI 4) dX4_init_12 (by decide) ?_
  refine v_newarr (t := 1) (by decide) dX4_init_13 rfl (by decide) (by omega) (by omega) ?_
  refine v_putF 1 dX4_init_15 FTX4 (by decide) rfl fl_X4_15 ((wu_ne _ _ (by omega)).trans (wu_eq _ _ _)) rfl rfl (Nat.le_of_ble_eq_true rfl) rfl rfl rfl ?_
  refine v_aload_n dX4_init_18 rfl ?_
  refine v_bipush (v := nI 8) dX4_init_19 (by decide) ?_
  refine v_newarr (t := 1) (by decide) dX4_init_21 rfl (by decide) (by omega) (by omega) ?_
  refine v_putF 2 dX4_init_23 FTX4 (by decide) rfl fl_X4_18 ((wu_ne _ _ (by omega)).trans (wu_eq _ _ _)) rfl rfl (Nat.le_of_ble_eq_true rfl) rfl rfl rfl ?_
  refine v_aload_n dX4_init_26 rfl ?_
  refine v_bipush (v := nI 10) dX4_init_27 (by decide) ?_
  refine v_newarr (t := 1) (by decide) dX4_init_29 rfl (by decide) (by omega) (by omega) ?_
  refine v_putF 3 dX4_init_31 FTX4 (by decide) rfl fl_X4_21 ((wu_ne _ _ (by omega)).trans (wu_eq _ _ _)) rfl rfl (Nat.le_of_ble_eq_true rfl) rfl rfl rfl ?_
  refine v_aload_n dX4_init_34 rfl ?_
  refine v_bipush (v := nI 24) dX4_init_35 (by decide) ?_
  refine v_anew (t := 2) (by decide) dX4_init_37 cl_X4_24 (by decide) (by omega) (by omega) ?_
  refine v_putF 4 dX4_init_40 FTX4 (by decide) rfl fl_X4_26 ((wu_ne _ _ (by omega)).trans (wu_eq _ _ _)) rfl rfl (Nat.le_of_ble_eq_true rfl) rfl rfl rfl ?_
  refine v_aload_n dX4_init_43 rfl ?_
  refine v_new (fs := [.null, .int 0, .int 0]) dX4_init_44 FTX3 cl_X4_30 insX3 iniX3 hnX3 (by omega) (by omega) ?_
  refine v_dup dX4_init_47 rfl ?_
  refine v_callI (As := []) oX3_init dX4_init_48 ml_X4_32 (c_X3init (wu_eq _ _ _)) rfl (by decide) (Nat.le_of_ble_eq_true rfl) (by omega) (by omega) (fun r' w9 zz1 hq => ?_)
  obtain ⟨rfl, rfl, q1, q2⟩ := hq
  have e5 : ∀ q, q < S + 6 ∨ S + 72 ≤ q → w9 q = _ := fun q hq => q2 q (by omega)
  refine v_putF 5 dX4_init_51 FTX4 (by decide) rfl fl_X4_33 ((q2 _ (by omega)).trans ((wu_ne _ _ (by omega)).trans (wu_eq _ _ _))) rfl rfl (Nat.le_of_ble_eq_true rfl) rfl rfl rfl ?_
  refine v_aload_n dX4_init_54 rfl ?_
  refine v_iconst (v := nI 2) dX4_init_55 (by decide) ?_
  refine v_put 6 dX4_init_56 FTX4 (by decide) rfl fl_X4_37 (wu_eq _ _ _) rfl rfl (Nat.le_of_ble_eq_true rfl) rfl ?_
  refine v_gen (fun w' => (w' S = some (ob 4 [.ref (S + 1), .ref (S + 2), .ref (S + 3), .ref (S + 4), .ref (S + 5), .ref (S + 6), .int (nI 2), .int 0, .int 0, .int 0, .int 0]) ∧ w' (S + 1) = some (ia 1 4 (fun _ => 0)) ∧ w' (S + 2) = some (ia 1 4 (fun _ => 0)) ∧ w' (S + 3) = some (ia 1 8 (rof 0)) ∧ w' (S + 4) = some (ia 1 10 (fun _ => 0)) ∧ w' (S + 5) = some (ra 2 24 (fun _ => none)) ∧ RR w' (S + 6) (in5 16) 0 (fun i => i) (fun i => i) ∧ fr S 168 w w')) ⟨by rw [wu_eq]; rfl, by rw [wu_ne _ _ (by omega), wu_ne _ _ (by omega), e5 _ (by omega)]; simp [wu], by rw [wu_ne _ _ (by omega), wu_ne _ _ (by omega), e5 _ (by omega)]; simp [wu], by rw [wu_ne _ _ (by omega), wu_ne _ _ (by omega), e5 _ (by omega)]; simp [wu]; rfl, by rw [wu_ne _ _ (by omega), wu_ne _ _ (by omega), e5 _ (by omega)]; simp [wu], by rw [wu_ne _ _ (by omega), wu_ne _ _ (by omega), e5 _ (by omega)]; simp [wu], (q1 (in5 16) (i0_0 (by omega)) (fun k hk z => by rw [in5_nu 16 k hk] at z; exact absurd z (by decide)) (fun i => i)).fr (fun q a b => by rw [wu_ne _ _ (by omega), wu_ne _ _ (by omega)]), fun q hq => by rw [wu_ne _ _ (by omega), wu_ne _ _ (by omega), e5 _ (by omega)]; simp [wu, show q ≠ S by omega, show q ≠ S + 1 by omega, show q ≠ S + 1 + 1 by omega, show q ≠ S + 1 + 1 + 1 by omega, show q ≠ S + 1 + 1 + 1 + 1 by omega, show q ≠ S + 1 + 1 + 1 + 1 + 1 by omega, show q ≠ S + 1 + 1 + 1 + 1 + 1 + 1 by omega]⟩ (fun w1 hw1 => ?_)
  obtain ⟨u1, u2, u3, u4, u5, u6, u7, u8⟩ := hw1
  refine v_eqz (show S + 72 = _ by omega) ?_
  refine v_eqc (show 71 = _ by omega) (show 1685 = _ by omega) ?_
  refine v_aload_n dX4_init_59 rfl ?_
  refine v_get 0 dX4_init_60 FTX4 (by decide) rfl fl_X4_9 u1 rfl ?_
  refine v_bipush (v := nI 10) dX4_init_63 (by decide) ?_
  refine n_wS2 oJ7_fill_53178 dX4_init_65 ml_X4_41 (c_fill u2 (by decide) (nI 10)) (by decide) (Nat.le_of_ble_eq_true rfl) (by omega) (by omega) ?_
  refine v_aload_n dX4_init_68 rfl ?_
  refine v_get 1 dX4_init_69 FTX4 (by decide) rfl fl_X4_15 ((wu_ne _ _ (by omega)).trans u1) rfl ?_
  refine v_iconst (v := nI 1) dX4_init_72 (by decide) ?_
  refine n_wS2 oJ7_fill_53178 dX4_init_73 ml_X4_41 (c_fill ((wu_ne _ _ (by omega)).trans u3) (by decide) (nI 1)) (by decide) (Nat.le_of_ble_eq_true rfl) (by omega) (by omega) ?_
  refine v_iconst (v := nI 0) dX4_init_76 (by decide) ?_
  refine v_istore_n dX4_init_77 (by decide) rfl ?_
  have LP78 : ∀ i, i ≤ 8 → V mX4_init 4 167 4061 (fun r' w' zz => r' = none ∧ zz = S + 168 ∧ SR w' S (in5 16) ∧ fr S 168 w w') (wu (wu (wu w1 (S + 1) (ia 1 4 (flF (fun _ => 0) (nI 10) 4))) (S + 2) (ia 1 4 (flF (fun _ => 0) (nI 1) 4))) (S + 3) (ia 1 8 (rof i))) (S + 72) (71) (1685) [some (.ref S), some (.int (nI i))] [] 78 := by
    refine dn (fun i hi ih => ?_)
    refine v_iload_n dX4_init_78 rfl ?_
    refine v_bipush (v := nI 8) dX4_init_79 (by decide) ?_
    refine v_icmp_geN (tgt := 99) dX4_init_81 (by decide) (by omega) (by omega) (fun b81 => ?_) (fun b81 => ?_)
    ·
      have e1 : i = 8 := by omega
      subst e1
      refine v_iconst (v := nI 0) dX4_init_99 (by decide) ?_
      refine v_istore_n dX4_init_100 (by decide) rfl ?_
      have LP101 : ∀ i, i ≤ 24 → ∀ w2 : Wd, (w2 S = some (ob 4 [.ref (S + 1), .ref (S + 2), .ref (S + 3), .ref (S + 4), .ref (S + 5), .ref (S + 6), .int (nI 2), .int 0, .int 0, .int 0, .int 0]) ∧ (∃ li, w2 (S + 1) = some (ia 1 4 li) ∧ ∀ r, r < 4 → li r = nI 10) ∧ (∃ ak, w2 (S + 2) = some (ia 1 4 ak) ∧ ∀ r, r < 4 → ak r = nI 1) ∧ w2 (S + 3) = some (ia 1 8 (rof 8)) ∧ w2 (S + 4) = some (ia 1 10 (fun _ => 0)) ∧ (∃ lf, w2 (S + 5) = some (ra 2 24 lf) ∧ ∀ p, p < i → lf p = some (S + 72 + 4 * p)) ∧ RR w2 (S + 6) (in5 16) 0 (fun i => i) (fun i => i) ∧ (∀ p, p < i → LO w2 (S + 72 + 4 * p) (-5) (nI 0) (nI 0) (fun _ => 0) 0) ∧ fr S 168 w w2) → V mX4_init 4 167 4061 (fun r' w' zz => r' = none ∧ zz = S + 168 ∧ SR w' S (in5 16) ∧ fr S 168 w w') (w2) (S + 72 + 4 * i) (71 + 4 * i) (1685 + 99 * i) [some (.ref S), some (.int (nI i))] [] 101 := by
        refine dn (fun i hi ih => ?_)
        intro w2 hI2
        obtain ⟨c1, ⟨li, c2, c2b⟩, ⟨ak, c3, c3b⟩, c4, c5, ⟨lf, c6, c6b⟩, c7, c8, c9⟩ := hI2
        refine v_iload_n dX4_init_101 rfl ?_
        refine v_bipush (v := nI 24) dX4_init_102 (by decide) ?_
        refine v_icmp_geN (tgt := 126) dX4_init_104 (by decide) (by omega) (by omega) (fun b104 => ?_) (fun b104 => ?_)
        ·
          have e1 : i = 24 := by omega
          subst e1
          refine v_ret dX4_init_126 rfl (by omega) (by omega) ?_
          refine ⟨rfl, by omega, ⟨?_, ⟨_, _, _, c7⟩, WS_0, VI_0, OW_0⟩, c9⟩
          show SBx _ S _ (in5 16 16) (in5 16 17) (in5 16 19) (in5 16 20) (in5 16 21)
          rw [i0_16, i0_0 (q := 17) (by omega), i0_0 (q := 19) (by omega), i0_0 (q := 20) (by omega), i0_0 (q := 21) (by omega)]
          exact ⟨c1, ⟨li, c2, fun r hr => (c2b r hr).trans (i0_12 hr).symm⟩, ⟨ak, c3, fun r hr => (c3b r hr).trans (i0_8 hr).symm⟩, ⟨_, c4, fun a ha => by
            rw [i0_a ha]
            unfold rof
            rw [if_pos ha]⟩, ⟨_, c5, fun v hv => (i0_0 (by omega)).symm⟩, ⟨lf, c6, c6b⟩, fun p hp => LbR_0 hp (c8 p hp)⟩
        ·
          refine v_aload_n dX4_init_107 rfl ?_
          refine v_get 4 dX4_init_108 FTX4 (by decide) rfl fl_X4_26 c1 rfl ?_
          refine v_iload_n dX4_init_111 rfl ?_
          refine v_new (fs := [.null, .int 0, .int 0, .int 0]) dX4_init_112 FTX1 cl_X4_24 insX1 iniX1 hnX1 (by omega) (by omega) ?_
          refine v_dup dX4_init_115 rfl ?_
          refine v_callIN (As := []) oX1_init dX4_init_116 (by decide) (c_X1init rfl (wu_eq _ _ _)) rfl (by decide) (Nat.le_of_ble_eq_true rfl) (by omega) (by omega) (fun r' w3 zz1 hq => ?_)
          obtain ⟨rfl, rfl, q1, q2⟩ := hq
          refine v_aast _ (by decide) dX4_init_119 ((q2 _ (by omega)).trans ((wu_ne _ _ (by omega)).trans c6)) ((q1 (fun _ => 0)).1) rfl (by omega) (by decide) ?_
          refine v_iincN dX4_init_120 (by decide) rfl rfl rfl ?_
          refine v_goto (tgt := 101) dX4_init_123 (by decide) ?_
          refine v_eqc (show 71 + 4 * (i + 1) = _ by omega) (show 1685 + 99 * (i + 1) = _ by omega) ?_
          refine v_eqz (show S + 72 + 4 * (i + 1) = _ by omega) ?_
          have e6 : ∀ q, q < S + 72 + 4 * i → q ≠ S + 5 → wu w3 (S + 5) (ra 2 24 (va_up lf i (some (S + 72 + 4 * i)))) q = w2 q := fun q a b => by rw [wu_ne _ _ b, q2 _ (by omega), wu_ne _ _ (by omega)]
          exact ih (by omega) _ ⟨(e6 _ (by omega) (by omega)).trans c1, ⟨li, (e6 _ (by omega) (by omega)).trans c2, c2b⟩, ⟨ak, (e6 _ (by omega) (by omega)).trans c3, c3b⟩, (e6 _ (by omega) (by omega)).trans c4, (e6 _ (by omega) (by omega)).trans c5, ⟨_, wu_eq _ _ _, fun p hp => by
            show (if p = i then some (S + 72 + 4 * i) else lf p) = _
            by_cases z : p = i
            · rw [if_pos z, z]
            · rw [if_neg z]
              exact c6b p (by omega)⟩, c7.fr (fun q a b => e6 q (by omega) (by omega)), fun p hp => by
            by_cases z : p = i
            · rw [z]
              exact (q1 (fun _ => 0)).fr (fun q a b => wu_ne _ _ (by omega))
            · exact (c8 p (by omega)).fr (fun q a b => e6 q (by omega) (by omega)), fun q hq => by rw [wu_ne _ _ (by omega), q2 _ (by omega), wu_ne _ _ (by omega)]; exact c9 q hq⟩
      refine LP101 0 (Nat.zero_le _) _ ⟨((wu_ne _ _ (by omega)).trans ((wu_ne _ _ (by omega)).trans ((wu_ne _ _ (by omega)).trans u1))), ⟨_, (wu_ne _ _ (by omega)).trans ((wu_ne _ _ (by omega)).trans (wu_eq _ _ _)), fun r hr => ?_⟩, ⟨_, (wu_ne _ _ (by omega)).trans (wu_eq _ _ _), fun r hr => ?_⟩, wu_eq _ _ _, ((wu_ne _ _ (by omega)).trans ((wu_ne _ _ (by omega)).trans ((wu_ne _ _ (by omega)).trans u5))), ⟨_, ((wu_ne _ _ (by omega)).trans ((wu_ne _ _ (by omega)).trans ((wu_ne _ _ (by omega)).trans u6))), fun p hp => absurd hp (Nat.not_lt_zero _)⟩, u7.fr (fun q a b => by rw [wu_ne _ _ (by omega), wu_ne _ _ (by omega), wu_ne _ _ (by omega)]), fun p hp => absurd hp (Nat.not_lt_zero _), ((u8.wu _ (by omega) (by omega)).wu _ (by omega) (by omega)).wu _ (by omega) (by omega)⟩
      · unfold flF
        rw [if_pos hr]
      · unfold flF
        rw [if_pos hr]
    ·
      refine v_aload_n dX4_init_84 rfl ?_
      refine v_get 2 dX4_init_85 FTX4 (by decide) rfl fl_X4_18 ((wu_ne _ _ (by omega)).trans ((wu_ne _ _ (by omega)).trans ((wu_ne _ _ (by omega)).trans u1))) rfl ?_
      refine v_iload_n dX4_init_88 rfl ?_
      refine v_iload_n dX4_init_89 rfl ?_
      refine v_iconst (v := nI 4) dX4_init_90 (by decide) ?_
      refine v_irem dX4_init_91 (by decide) ?_
      rw [nI_mod4 (by omega)]
      refine v_iast _ dX4_init_92 (wu_eq _ _ _) rfl (by omega) (by decide) ?_
      refine v_eqw (show wu (wu (wu w1 (S + 1) (ia 1 4 (flF (fun _ => 0) (nI 10) 4))) (S + 2) (ia 1 4 (flF (fun _ => 0) (nI 1) 4))) (S + 3) (ia 1 8 (rof (i + 1))) = _ by rw [wu_wu _ (S + 3), rof_S]) ?_
      refine v_iincN dX4_init_93 (by decide) rfl rfl rfl ?_
      refine v_goto (tgt := 78) dX4_init_96 (by decide) ?_
      exact ih (by omega)
  refine v_eqw (show wu (wu (wu w1 (S + 1) (ia 1 4 (flF (fun _ => 0) (nI 10) 4))) (S + 2) (ia 1 4 (flF (fun _ => 0) (nI 1) 4))) (S + 3) (ia 1 8 (rof 0)) = _ from wu_self ((wu_ne _ _ (by omega)).trans ((wu_ne _ _ (by omega)).trans u4))) ?_
  exact LP78 0 (Nat.zero_le _)
