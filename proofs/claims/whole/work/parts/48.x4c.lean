theorem SBx_acc {w : Wd} {S v : Nat} {g ac : Nat → Int32} {x x6 x7 x8 x9 x10 : Int32} (h : SBx w S g x6 x7 x8 x9 x10) (hv : v < 10) (hac : ∀ v, v < 10 → ac v = g (22 + v)) : SBx (wu w (S + 4) (ia 1 10 (upd ac v x))) S (upd g (22 + v) x) x6 x7 x8 x9 x10 := by
  obtain ⟨s1, ⟨li, s2, s2b⟩, ⟨ak, s3, s3b⟩, ⟨ro, s4, s4b⟩, -, ⟨lf, s6, s6b⟩, s7⟩ := h
  have ew : ∀ q, q ≠ S + 4 → wu w (S + 4) (ia 1 10 (upd ac v x)) q = w q := fun q hq => wu_ne _ _ hq
  have e : ∀ q, q ≠ 22 + v → upd g (22 + v) x q = g q := fun q hq => up_ne _ _ hq
  refine ⟨(ew _ (by omega)).trans s1, ⟨li, (ew _ (by omega)).trans s2, fun i hi => (s2b i hi).trans (e _ (by omega)).symm⟩, ⟨ak, (ew _ (by omega)).trans s3, fun i hi => (s3b i hi).trans (e _ (by omega)).symm⟩, ⟨ro, (ew _ (by omega)).trans s4, fun i hi => (s4b i hi).trans (e _ (by omega)).symm⟩, ⟨_, wu_eq _ _ _, fun i hi => ?_⟩, ⟨lf, (ew _ (by omega)).trans s6, s6b⟩, fun p hp => ((s7 p hp).fr (fun q h1 h2 => ew q (by omega))).congr (fun q h1 h2 => e q (by omega))⟩
  by_cases z : i = v
  · rw [z, up_eq, up_eq]
  · rw [up_ne _ _ z, e _ (by omega)]
    exact hac i hi
theorem ac0_1 {g : Nat → Int32} {p k : Nat} : ac0 g p k (272 + 64 * p + 1) = g (1808 + 65 * k + 2) := by
  unfold ac0
  rw [lay_out (by omega), up_ne _ _ (by omega), up_ne _ _ (by omega), up_eq]
theorem ac0_2 {g : Nat → Int32} {p k : Nat} : ac0 g p k (272 + 64 * p + 2) = g 17 := by
  unfold ac0
  rw [lay_out (by omega), up_ne _ _ (by omega), up_eq]
theorem ac0_3 {g : Nat → Int32} {p k : Nat} : ac0 g p k (272 + 64 * p + 3) = nI 0 := by
  unfold ac0
  rw [lay_out (by omega), up_eq]
theorem ac1_out {g : Nat → Int32} {p k q : Nat} (hn : nt (g (1808 + 65 * k + 4)) ≤ 60) (h : q < 272 + 64 * p ∨ 272 + 64 * p + 64 ≤ q) (h2 : q < 22 ∨ 32 ≤ q) (hv : nt (g (1808 + 65 * k + 2)) < 10) : ac1 g p k q = g q := by
  unfold ac1
  rw [up_ne _ _ (by omega), ac0_out hn h]
theorem VI_age {s : Nat → Int32} (h : VI s) {k : Nat} (hk : k < 16) : VI (agk s k) := by
  unfold agk
  have h1 : VI (upd s (1808 + 65 * k + 3) (s (1808 + 65 * k + 3) + nI 1)) := h.congr (fun q a b => up_ne _ _ (by omega)) (fun j hj => ⟨up_ne _ _ (by omega), up_ne _ _ (by omega)⟩)
  split
  · split
    · exact (VI_gone h1 hk).congr (fun q a b => up_ne _ _ (by omega)) (fun j hj => ⟨up_ne _ _ (by omega), up_ne _ _ (by omega)⟩)
    · exact h1
  · exact h
theorem OW_age {s : Nat → Int32} (h : OW s) {k : Nat} (hk : k < 16) : OW (agk s k) := by
  unfold agk
  have h1 : OW (upd s (1808 + 65 * k + 3) (s (1808 + 65 * k + 3) + nI 1)) := h.congr (fun j hj => ⟨up_ne _ _ (by omega), up_ne _ _ (by omega), up_ne _ _ (by omega)⟩)
  split
  · split
    · exact (OW_gone h1 hk).congr (fun j hj => ⟨up_ne _ _ (by omega), up_ne _ _ (by omega), up_ne _ _ (by omega)⟩)
    · exact h1
  · exact h
theorem ag_ok {s : Nat → Int32} (h : WS s) (h2 : VI s) (h3 : OW s) : ∀ i, i ≤ 16 → WS (agS s i) ∧ VI (agS s i) ∧ OW (agS s i)
  | 0, _ => ⟨h, h2, h3⟩
  | i + 1, hi => by
    have ih := ag_ok h h2 h3 i (by omega)
    exact ⟨WS_age ih.1 (by omega), VI_age ih.2.1 (by omega), OW_age ih.2.2 (by omega)⟩
theorem WS_cn {g s : Nat → Int32} (h : WS g) (e : ∀ q, q ≠ 17 → q ≠ 19 → q ≠ 20 → q ≠ 21 → s q = g q) : WS s := by
  obtain ⟨h1, h2, h3, h4, h5, h6, h7⟩ := h
  refine ⟨fun a ha => ?_, fun i hi => ?_, fun i hi => ?_, ?_, ?_, fun p hp => ?_, fun k hk => ?_⟩
  · rw [e _ (by omega) (by omega) (by omega) (by omega)]; exact h1 a ha
  · rw [e _ (by omega) (by omega) (by omega) (by omega)]; exact h2 i hi
  · rw [e _ (by omega) (by omega) (by omega) (by omega)]; exact h3 i hi
  · rw [e _ (by omega) (by omega) (by omega) (by omega)]; exact h4
  · rw [e _ (by omega) (by omega) (by omega) (by omega)]; exact h5
  · rw [e _ (by omega) (by omega) (by omega) (by omega)]
    exact ⟨(h6 p hp).1, (h6 p hp).2.imp id (okT_congr (fun j hj => (e _ (by omega) (by omega) (by omega) (by omega)).symm))⟩
  · rw [e _ (by omega) (by omega) (by omega) (by omega)]
    refine (h7 k hk).imp id (fun ⟨a1, a2, a3, a4, a5, a6⟩ => ?_)
    unfold rwk
    rw [e _ (by omega) (by omega) (by omega) (by omega), e 18 (by omega) (by omega) (by omega) (by omega), e _ (by omega) (by omega) (by omega) (by omega), e _ (by omega) (by omega) (by omega) (by omega), e _ (by omega) (by omega) (by omega) (by omega), e _ (by omega) (by omega) (by omega) (by omega)]
    exact ⟨a1, a2, a3, a4, a5, okT_congr (fun j hj => (e _ (by omega) (by omega) (by omega) (by omega)).symm) a6⟩
set_option maxHeartbeats 1000000 in
set_option maxRecDepth 100000 in
theorem c_accept {w : Wd} {S n : Nat} {g : Nat → Int32} {π κ : Nat → Nat} (h : SR w S g) (hRR : RR w (S + 6) g n π κ) (j x : Nat) (hj : j < n) (hx : x = S + 6 + 2 + 4 * π j) : Wr mX4_accept 3 [.ref S, .ref x] w (fun r' w' => r' = none ∧ SR w' S (accS g (nt (g (1808 + 65 * κ j + 1))) (κ j)) ∧ fr S 168 w w') := by
  intro sz
  refine Ev.ofV [some (.ref S), some (.ref x)] (by decide) (Nat.le_of_ble_eq_true rfl) rfl rfl rfl ?_
  subst hx
  have h0 := h
  obtain ⟨hB, -, hW, hI, hO⟩ := h0
  have hBb := hB
  obtain ⟨s1, ⟨li, s2, s2b⟩, ⟨ak, s3, s3b⟩, ⟨ro, s4, s4b⟩, ⟨ac, s5, s5b⟩, ⟨lf, s6, s6b⟩, s7⟩ := hBb
  obtain ⟨Vj, hrj⟩ := hRR.2.2.2.2 j hj
  have hn16 := hRR.2.1.1
  have hpj := hRR.2.2.1.1 j (by omega)
  have hkj := hRR.2.1.2.1 j hj
  have hrw := hW.rw hkj.1 hkj.2
  have hv10 := hrw.2.2.1.2
  have hp24 := hrw.2.1.2
  have hn5 : nt (g (1808 + 65 * κ j + 4)) ≤ 60 := by have := hrw.2.2.2.2.1.2; omega
  obtain ⟨vi, hl, hv⟩ := s7 (nt (g (1808 + 65 * κ j + 1))) hrw.2.1.2
  refine v_aload_n dX4_accept_0 rfl ?_
  refine v_get 4 dX4_accept_1 FTX4 (by decide) rfl fl_X4_26 s1 rfl ?_
  refine v_aload_n dX4_accept_4 rfl ?_
  refine v_get 2 dX4_accept_5 FTX2 (by decide) rfl fl_X4_104 hrj.1.1 rfl ?_
  refine v_aald (nt (g (1808 + 65 * κ j + 1))) (by decide) dX4_accept_8 s6 hrw.2.1.1 hrw.2.1.2 (by decide) (s6b (nt (g (1808 + 65 * κ j + 1))) hrw.2.1.2) ?_
  refine v_aload_n dX4_accept_9 rfl ?_
  refine v_get 0 dX4_accept_10 FTX2 (by decide) rfl fl_X4_109 hrj.1.1 rfl ?_
  refine v_aload_n dX4_accept_13 rfl ?_
  refine v_get 3 dX4_accept_14 FTX2 (by decide) rfl fl_X4_113 hrj.1.1 rfl ?_
  refine v_aload_n dX4_accept_17 rfl ?_
  refine v_get 7 dX4_accept_18 FTX4 (by decide) rfl fl_X4_61 s1 rfl ?_
  refine v_wV3 oX1_become dX4_accept_21 ml_X4_116 (c_lbecome hl hrj.1.2 (by omega) (g (1808 + 65 * κ j + 2)) (g 17)) hl.1 (by decide) (Nat.le_of_ble_eq_true rfl) (Nat.le_refl _) (Nat.le_refl _) (fun r' w2 hq => ?_)
  obtain ⟨rfl, q1, q2⟩ := hq
  have hL2 : LbR w2 (S + 72 + 4 * (nt (g (1808 + 65 * κ j + 1)))) (ac0 g (nt (g (1808 + 65 * κ j + 1))) (κ j)) (nt (g (1808 + 65 * κ j + 1))) := by
    unfold LbR lvis
    rw [ac0_len, ac0_1, ac0_2, ac0_3, if_neg (show ¬ g (1808 + 65 * κ j + 2) < 0 by rw [hrw.2.2.1.1]; exact nI_nlt0 (by omega))]
    exact ⟨_, ⟨q1.1, q1.2.congr (fun i hi => ac0_txt hi)⟩, fun _ => rfl⟩
  have c1 := SBx_lab hB hrw.2.1.2 hL2 q2 (fun q hq => ac0_out hn5 (by omega))
  have hac : ∀ v, v < 10 → ac v = ac0 g (nt (g (1808 + 65 * κ j + 1))) (κ j) (22 + v) := fun v hv => (s5b v hv).trans (ac0_out hn5 (by omega)).symm
  refine v_aload_n dX4_accept_24 rfl ?_
  refine v_get 3 dX4_accept_25 FTX4 (by decide) rfl fl_X4_21 ((q2 _ (by omega)).trans s1) rfl ?_
  refine v_aload_n dX4_accept_28 rfl ?_
  refine v_get 3 dX4_accept_29 FTX2 (by decide) rfl fl_X4_113 ((q2 _ (by omega)).trans hrj.1.1) rfl ?_
  refine v_dup2 dX4_accept_32 rfl rfl ?_
  refine v_ialdE (nt (g (1808 + 65 * κ j + 2))) dX4_accept_33 ((q2 _ (by omega)).trans s5) hrw.2.2.1.1 hrw.2.2.1.2 (by decide) (s5b (nt (g (1808 + 65 * κ j + 2))) hrw.2.2.1.2) ?_
  refine v_iconst (v := nI 1) dX4_accept_34 (by decide) ?_
  refine v_iadd dX4_accept_35 ?_
  refine v_iast (nt (g (1808 + 65 * κ j + 2))) dX4_accept_36 ((q2 _ (by omega)).trans s5) hrw.2.2.1.1 hrw.2.2.1.2 (by decide) ?_
  have c2 := SBx_acc (x := ac0 g (nt (g (1808 + 65 * κ j + 1))) (κ j) (22 + nt (g (1808 + 65 * κ j + 2))) + nI 1) c1 hrw.2.2.1.2 hac
  have a22 : ac0 g (nt (g (1808 + 65 * κ j + 1))) (κ j) (22 + nt (g (1808 + 65 * κ j + 2))) = g (22 + nt (g (1808 + 65 * κ j + 2))) := ac0_out hn5 (by omega)
  rw [a22] at c2
  have hR3 : RR (wu w2 (S + 4) (ia 1 10 (upd ac (nt (g (1808 + 65 * κ j + 2))) (g (22 + nt (g (1808 + 65 * κ j + 2))) + nI 1)))) (S + 6) (ac1 g (nt (g (1808 + 65 * κ j + 1))) (κ j)) n π κ := (hRR.fr (fun q h1 h2 => by rw [wu_ne _ _ (by omega)]; exact q2 q (by omega))).congr hW (fun q h1 h2 => ac1_out hn5 (by omega) (by omega) hv10)
  have hpl3 : ∀ i, i < n → nt (ac1 g (nt (g (1808 + 65 * κ j + 1))) (κ j) (1808 + 65 * κ i + 1)) < 24 := fun i hi => by
    rw [ac1_out hn5 (by omega) (by omega) hv10]
    exact hRR.pl hW i hi
  refine v_aload_n dX4_accept_37 rfl ?_
  refine v_get 5 dX4_accept_38 FTX4 (by decide) rfl fl_X4_33 ((wu_ne _ _ (by omega)).trans ((q2 _ (by omega)).trans s1)) rfl ?_
  refine v_aload_n dX4_accept_41 rfl ?_
  refine v_wV1 oX3_remove dX4_accept_42 ml_X4_120 (c_remove hR3 hpl3 j _ hj rfl) hR3.1.choose_spec.1 (by decide) (Nat.le_of_ble_eq_true rfl) (Nat.le_refl _) (Nat.le_refl _) (fun r' w4 hq => ?_)
  obtain ⟨rfl, q3, q4⟩ := hq
  refine v_ret dX4_accept_45 rfl (Nat.le_refl _) (Nat.le_refl _) ?_
  have hlo : ∀ q, q < 22 → accS g (nt (g (1808 + 65 * κ j + 1))) (κ j) q = g q := fun q hq => accS_lo hn5 hq
  have g1 : ∀ q, (q < 32 ∨ 272 ≤ q) → q < 1808 → accS g (nt (g (1808 + 65 * κ j + 1))) (κ j) q = ac1 g (nt (g (1808 + 65 * κ j + 1))) (κ j) q := fun q a b => gone_out a (by omega)
  refine ⟨rfl, rfl, ⟨?_, ⟨_, _, _, q3⟩, WS_acc hW hrw.2.1.2 hkj.1 hrw, VI_gone (hI.congr (fun q a b => ac1_out hn5 (by omega) (by omega) hv10) (fun k hk => ⟨ac1_out hn5 (by omega) (by omega) hv10, ac1_out hn5 (by omega) (by omega) hv10⟩)) hkj.1, OW_gone (hO.congr (fun k hk => ⟨ac1_out hn5 (by omega) (by omega) hv10, ac1_out hn5 (by omega) (by omega) hv10, ac1_out hn5 (by omega) (by omega) hv10⟩)) hkj.1⟩, ((q2.mono (by omega) (by omega)).wu _ (by omega) (by omega)).tr (q4.mono (by omega) (by omega))⟩
  show SBx _ S _ (accS g (nt (g (1808 + 65 * κ j + 1))) (κ j) 16) (accS g (nt (g (1808 + 65 * κ j + 1))) (κ j) 17) (accS g (nt (g (1808 + 65 * κ j + 1))) (κ j) 19) (accS g (nt (g (1808 + 65 * κ j + 1))) (κ j) 20) (accS g (nt (g (1808 + 65 * κ j + 1))) (κ j) 21)
  rw [hlo 16 (by omega), hlo 17 (by omega), hlo 19 (by omega), hlo 20 (by omega), hlo 21 (by omega)]
  exact (c2.fr (fun q a b c => q4 q (by omega))).congr (fun q hq => g1 q (by omega) (by omega))
set_option maxHeartbeats 1000000 in
set_option maxRecDepth 100000 in
theorem c_passWeek {w : Wd} {S : Nat} {g : Nat → Int32} (h : SR w S g) : Wr mX4_passWeek 5 [.ref S] w (fun r' w' => r' = some (.int (nI (wkN g 24))) ∧ SR w' S (upd (upd (agS (wkS g 24) 16) 19 (agS (wkS g 24) 16 19 + nI (wkN g 24))) 17 (agS (wkS g 24) 16 17 + nI 1)) ∧ fr S 168 w w') := by
  intro sz
  refine Ev.ofV [some (.ref S), none, none, none] (by decide) (Nat.le_of_ble_eq_true rfl) rfl rfl rfl ?_
  have h0 := h
  obtain ⟨hB, ⟨n, π, κ, hRR⟩, hW, hI, hO⟩ := h0
  have hBb := hB
  obtain ⟨s1, ⟨li, s2, s2b⟩, ⟨ak, s3, s3b⟩, ⟨ro, s4, s4b⟩, ⟨ac, s5, s5b⟩, ⟨lf, s6, s6b⟩, s7⟩ := hBb
  refine v_iconst (v := nI 0) dX4_passWeek_0 (by decide) ?_
  refine v_istore_n dX4_passWeek_1 (by decide) rfl ?_
  refine v_iconst (v := nI 0) dX4_passWeek_2 (by decide) ?_
  refine v_istore_n dX4_passWeek_3 (by decide) rfl ?_
  have LP4 : ∀ i, i ≤ 24 → ∀ w2 : Wd, (SR w2 S (wkS g i) ∧ fr S 168 w w2) → V mX4_passWeek 5 0 0 (fun r' w' zz => zz = sz ∧ (r' = some (.int (nI (wkN g 24))) ∧ SR w' S (upd (upd (agS (wkS g 24) 16) 19 (agS (wkS g 24) 16 19 + nI (wkN g 24))) 17 (agS (wkS g 24) 16 17 + nI 1)) ∧ fr S 168 w w')) (w2) (sz) (0) (0) [some (.ref S), some (.int (nI (wkN g i))), some (.int (nI i)), none] [] 4 := by
    refine dn (fun i hi ih => ?_)
    intro w2 hI2
    obtain ⟨c1, c2⟩ := hI2
    have c1b := c1
    obtain ⟨u1, ⟨n2, π2, κ2, hRR2⟩, u3, u4, u5⟩ := c1b
    have u1b := u1
    obtain ⟨t1, t2⟩ := u1b
    refine v_iload_n dX4_passWeek_4 rfl ?_
    refine v_bipush (v := nI 24) dX4_passWeek_5 (by decide) ?_
    refine v_icmp_geN (tgt := 34) dX4_passWeek_7 (by decide) (by omega) (by omega) (fun b7 => ?_) (fun b7 => ?_)
    ·
      have e1 : i = 24 := by omega
      subst e1
      refine v_aload_n dX4_passWeek_34 rfl ?_
      refine v_dup dX4_passWeek_35 rfl ?_
      refine v_get 8 dX4_passWeek_36 FTX4 (by decide) rfl fl_X4_64 t1 rfl ?_
      refine v_iload_n dX4_passWeek_39 rfl ?_
      refine v_iadd dX4_passWeek_40 ?_
      refine v_put 8 dX4_passWeek_41 FTX4 (by decide) rfl fl_X4_64 t1 rfl rfl (Nat.le_of_ble_eq_true rfl) rfl ?_
      have d1 := SBx_set u1 (wkS g 24 16) (wkS g 24 17) (wkS g 24 19 + nI (wkN g 24)) (wkS g 24 20) (wkS g 24 21)
      have hR6 := hRR2.fr (w' := wu w2 S (s4o S (wkS g 24 16) (wkS g 24 17) (wkS g 24 19 + nI (wkN g 24)) (wkS g 24 20) (wkS g 24 21))) (fun q a b => wu_ne _ _ (by omega))
      refine v_aload_n dX4_passWeek_44 rfl ?_
      refine v_dup dX4_passWeek_45 rfl ?_
      refine v_get 9 dX4_passWeek_46 FTX4 (by decide) rfl fl_X4_67 d1.1 rfl ?_
      refine v_aload_n dX4_passWeek_49 rfl ?_
      refine v_get 5 dX4_passWeek_50 FTX4 (by decide) rfl fl_X4_33 d1.1 rfl ?_
      refine v_wV0 oX3_growOlder dX4_passWeek_53 ml_X4_100 (c_growOlder hR6 u3) hR6.1.choose_spec.1 (by decide) (Nat.le_of_ble_eq_true rfl) (Nat.le_refl _) (Nat.le_refl _) (fun r' w5 hq => ?_)
      obtain ⟨n3, π3, κ3, rfl, q1, q2⟩ := hq
      refine v_eqs (show [Value.int (nI (cnt (fal (wkS g 24) (fun _ => true)) 16)), .int (wkS g 24 20), .ref S] = _ from rfl) ?_
      have d2 := d1.fr (w' := w5) (fun q a b c => q2 q (by omega))
      refine v_iadd dX4_passWeek_56 ?_
      refine v_put 9 dX4_passWeek_57 FTX4 (by decide) rfl fl_X4_67 d2.1 rfl rfl (Nat.le_of_ble_eq_true rfl) rfl ?_
      have d3 := SBx_set d2 (wkS g 24 16) (wkS g 24 17) (wkS g 24 19 + nI (wkN g 24)) (wkS g 24 20 + nI (cnt (fal (wkS g 24) (fun _ => true)) 16)) (wkS g 24 21)
      refine v_aload_n dX4_passWeek_60 rfl ?_
      refine v_dup dX4_passWeek_61 rfl ?_
      refine v_get 7 dX4_passWeek_62 FTX4 (by decide) rfl fl_X4_61 d3.1 rfl ?_
      refine v_iconst (v := nI 1) dX4_passWeek_65 (by decide) ?_
      refine v_iadd dX4_passWeek_66 ?_
      refine v_put 7 dX4_passWeek_67 FTX4 (by decide) rfl fl_X4_61 d3.1 rfl rfl (Nat.le_of_ble_eq_true rfl) rfl ?_
      have d4 := SBx_set d3 (wkS g 24 16) (wkS g 24 17 + nI 1) (wkS g 24 19 + nI (wkN g 24)) (wkS g 24 20 + nI (cnt (fal (wkS g 24) (fun _ => true)) 16)) (wkS g 24 21)
      refine v_iload_n dX4_passWeek_70 rfl ?_
      refine v_iret dX4_passWeek_71 rfl (Nat.le_refl _) (Nat.le_refl _) ?_
      have hP := agS_P (wkS g 24) 16 (Nat.le_refl _)
      have hok := ag_ok u3 u4 u5 16 (Nat.le_refl _)
      obtain ⟨s, es⟩ : ∃ s, s = wkS g 24 := ⟨_, rfl⟩
      rw [← es] at hP hok q1 d4 ⊢
      obtain ⟨t, et⟩ : ∃ t, t = agS s 16 := ⟨_, rfl⟩
      rw [← et] at hP hok q1 ⊢
      have e : ∀ q, q ≠ 17 → q ≠ 19 → upd (upd t 19 (t 19 + nI (wkN g 24))) 17 (t 17 + nI 1) q = t q := fun q h1 h2 => by rw [up_ne _ _ h1, up_ne _ _ h2]
      have h20 : t 20 = s 20 + nI (cnt (fal s (fun _ => true)) 16) := by
        rw [hP.2.1]
        congr 2
      refine ⟨rfl, rfl, ⟨?_, ⟨n3, π3, κ3, ?_⟩, WS_cn hok.1 (fun q a b _ _ => e q a b), hok.2.1.congr (fun q a b => e q (by omega) (by omega)) (fun k hk => ⟨e _ (by omega) (by omega), e _ (by omega) (by omega)⟩), hok.2.2.congr (fun k hk => ⟨e _ (by omega) (by omega), e _ (by omega) (by omega), e _ (by omega) (by omega)⟩)⟩, ?_⟩
      · show SBx _ S _ (upd (upd t 19 (t 19 + nI (wkN g 24))) 17 (t 17 + nI 1) 16) (upd (upd t 19 (t 19 + nI (wkN g 24))) 17 (t 17 + nI 1) 17) (upd (upd t 19 (t 19 + nI (wkN g 24))) 17 (t 17 + nI 1) 19) (upd (upd t 19 (t 19 + nI (wkN g 24))) 17 (t 17 + nI 1) 20) (upd (upd t 19 (t 19 + nI (wkN g 24))) 17 (t 17 + nI 1) 21)
        rw [e 16 (by omega) (by omega), e 20 (by omega) (by omega), e 21 (by omega) (by omega), up_eq, up_ne _ _ (show 19 ≠ 17 by omega), up_eq, h20, hP.1 16 (by omega) (by omega), hP.1 17 (by omega) (by omega), hP.1 19 (by omega) (by omega), hP.1 21 (by omega) (by omega)]
        refine d4.congr (fun q hq => ?_)
        rw [up_ne _ _ (by omega), up_ne _ _ (by omega)]
        rcases Nat.lt_or_ge q 32 with z | z
        · exact hP.1 q z (by omega)
        · exact hP.2.2.1 q (by omega) (by omega)
      · exact (q1.fr (fun q a b => by rw [wu_ne _ _ (by omega), wu_ne _ _ (by omega)])).congr hok.1 (fun q a b => e q (by omega) (by omega))
      · exact (((c2.wu _ (by omega) (by omega)).tr (q2.mono (by omega) (by omega))).wu _ (by omega) (by omega)).wu _ (by omega) (by omega)
    ·
      refine v_aload_n dX4_passWeek_10 rfl ?_
      refine v_iload_n dX4_passWeek_11 rfl ?_
      refine u_rV1 oX4_bestRewriteFor dX4_passWeek_12 ml_X4_92 (c_bestRewriteFor c1 hRR2 i (by omega)) t1 (by decide) (Nat.le_of_ble_eq_true rfl) (Nat.le_refl _) (Nat.le_refl _) ?_
      have hq22 := (wk_ok hW i (by omega)).2
      have hra := (hW.1 (i / 3) (by omega)).2
      have hlim : limW (wkS g i) (i / 3) = limW g (i / 3) := by
        unfold limW
        rw [hq22 (i / 3) (by omega), hq22 (12 + nt (g (i / 3))) (by omega)]
      have hbs := clB_eq hRR2.2.1 (p := i) (nd := nt (wkS g i 16)) (lim := limW (wkS g i) (i / 3))
      rw [hq22 16 (by omega), hlim] at hbs
      rw [hq22 16 (by omega), hlim]
      cases hc : clB (wkS g i) κ2 i (nt (g 16)) (limW g (i / 3)) n2 with
      | none =>
        rw [hc] at hbs
        refine v_astore_nN dX4_passWeek_15 (by decide) rfl ?_
        refine v_aload_nN dX4_passWeek_16 rfl ?_
        refine v_ifnullN (tgt := 28) dX4_passWeek_17 (by decide) ?_
        refine v_iincN dX4_passWeek_28 (by decide) rfl rfl rfl ?_
        refine v_goto (tgt := 4) dX4_passWeek_31 (by decide) ?_
        refine v_drop 3 ?_
        refine v_eqL ?_ (ih (by omega) w2 ⟨by rw [wkS_N hbs]; exact c1, c2⟩)
        rw [wkN_N hbs]
        rfl
      | some j =>
        rw [hc] at hbs
        have hbs : bst (wkS g i) i (nt (g 16)) (limW g (i / 3)) 16 = some (κ2 j) := hbs
        have hj := clB_lt hRR2.2.1 (Nat.le_refl _) hc
        have hpk : nt (wkS g i (1808 + 65 * κ2 j + 1)) = i := by
          have h2 := hj.2
          unfold okB cand at h2
          simp only [Bool.and_eq_true] at h2
          have h3 : wkS g i (1808 + 65 * κ2 j + 1) = nI i := by simpa using h2.1.1.2
          rw [h3, nt_nI (by omega)]
        refine v_astore_n dX4_passWeek_15 (by decide) rfl ?_
        refine v_aload_n dX4_passWeek_16 rfl ?_
        refine v_ifnull dX4_passWeek_17 ?_
        refine v_aload_n dX4_passWeek_20 rfl ?_
        refine v_aload_n dX4_passWeek_21 rfl ?_
        refine v_wV1 oX4_accept dX4_passWeek_22 ml_X4_96 (c_accept c1 hRR2 j _ hj.1 rfl) t1 (by decide) (Nat.le_of_ble_eq_true rfl) (Nat.le_refl _) (Nat.le_refl _) (fun r' w3 hq => ?_)
        obtain ⟨rfl, q1, q2⟩ := hq
        rw [hpk] at q1
        refine v_iincN dX4_passWeek_25 (by decide) rfl rfl rfl ?_
        refine v_iincN dX4_passWeek_28 (by decide) rfl rfl rfl ?_
        refine v_goto (tgt := 4) dX4_passWeek_31 (by decide) ?_
        refine v_drop 3 ?_
        refine v_eqL ?_ (ih (by omega) w3 ⟨by rw [wkS_S hbs]; exact q1, c2.tr q2⟩)
        rw [wkN_S hbs]
        rfl
  exact LP4 0 (Nat.zero_le _) w ⟨h, fr.rf _ _ _⟩
