/-- the history: a ring of four states -/
def HR (w : Wd) (a ns nx : Nat) (hh : Nat → Nat → Int32) : Prop := (∃ hf, w a = some (ob 0 [.ref (a + 1), .int (nI ns), .int (nI nx)]) ∧ w (a + 1) = some (ra 4 4 hf) ∧ ∀ i, i < 4 → hf i = some (a + 2 + 168 * i)) ∧ ns ≤ 4 ∧ nx < 4 ∧ ∀ i, i < 4 → SR w (a + 2 + 168 * i) (hh i)
theorem HR.fr {w w' : Wd} {a ns nx : Nat} {hh : Nat → Nat → Int32} (h : HR w a ns nx hh) (e : ∀ q, a ≤ q → q < a + 674 → w' q = w q) : HR w' a ns nx hh := by
  obtain ⟨⟨hf, h1, h2, h3⟩, h4, h5, h6⟩ := h
  exact ⟨⟨hf, (e _ (by omega) (by omega)).trans h1, (e _ (by omega) (by omega)).trans h2, h3⟩, h4, h5, fun i hi => (h6 i hi).fr (fun q a b => e q (by omega) (by omega))⟩
set_option maxHeartbeats 1000000 in
set_option maxRecDepth 100000 in
theorem c_push {w : Wd} {a ns nx S : Nat} {hh : Nat → Nat → Int32} {g : Nat → Int32} (h : HR w a ns nx hh) (hS : SR w S g) (hd : S + 168 ≤ a ∨ a + 674 ≤ S) : Wr mX0_push 5 [.ref a, .ref S] w (fun r' w' => r' = none ∧ HR w' a (rcn ns) ((nx + 1) % 4) (fun i => if i = nx then g else hh i) ∧ fr a 674 w w') := by
  intro sz
  refine Ev.ofV [some (.ref a), some (.ref S)] (by decide) (Nat.le_of_ble_eq_true rfl) rfl rfl rfl ?_
  have h0 := h
  obtain ⟨⟨hf, r1, r2, r3⟩, h4, h5, h6⟩ := h0
  refine v_aload_n dX0_push_0 rfl ?_
  refine v_get 0 dX0_push_1 FTX0 (by decide) rfl fl_X0_11 r1 rfl ?_
  refine v_aload_n dX0_push_4 rfl ?_
  refine v_get 2 dX0_push_5 FTX0 (by decide) rfl fl_X0_18 r1 rfl ?_
  refine v_aald _ (by decide) dX0_push_8 r2 rfl (by omega) (by decide) (r3 nx h5) ?_
  refine v_aload_n dX0_push_9 rfl ?_
  refine v_wV1 oX4_copyFrom dX0_push_10 ml_X0_22 (c_scopy (h6 nx h5) hS (by omega)) (h6 nx h5).1.1 (by decide) (Nat.le_of_ble_eq_true rfl) (Nat.le_refl _) (Nat.le_refl _) (fun r' w1 hq => ?_)
  obtain ⟨rfl, q1, q2⟩ := hq
  refine v_aload_n dX0_push_13 rfl ?_
  refine v_aload_n dX0_push_14 rfl ?_
  refine v_get 2 dX0_push_15 FTX0 (by decide) rfl fl_X0_18 ((q2 _ (by omega)).trans r1) rfl ?_
  refine v_iconst (v := nI 1) dX0_push_18 (by decide) ?_
  refine v_iaddN dX0_push_19 ?_
  refine v_iconst (v := nI 4) dX0_push_20 (by decide) ?_
  refine v_irem dX0_push_21 (by decide) ?_
  rw [nI_mod4 (by omega)]
  refine v_put 2 dX0_push_22 FTX0 (by decide) rfl fl_X0_18 ((q2 _ (by omega)).trans r1) rfl rfl (Nat.le_of_ble_eq_true rfl) rfl ?_
  refine v_gen (fun w' => ((w' a = some (ob 0 [.ref (a + 1), .int (nI ns), .int (nI ((nx + 1) % 4))])) ∧ w' (a + 1) = some (ra 4 4 hf) ∧ (∀ i, i < 4 → SR w' (a + 2 + 168 * i) ((fun i => if i = nx then g else hh i) i)) ∧ fr a 674 w w')) ⟨wu_eq _ _ _, (wu_ne _ _ (by omega)).trans ((q2 _ (by omega)).trans r2), fun i hi => ?_, (q2.mono (by omega) (by omega)).wu _ (by omega) (by omega)⟩ (fun w2 hw2 => ?_)
  · show SR _ _ (if i = nx then g else hh i)
    by_cases z : i = nx
    · rw [if_pos z, z]
      exact q1.fr (fun q h1 h2 => wu_ne _ _ (by omega))
    · rw [if_neg z]
      exact (h6 i hi).fr (fun q h1 h2 => by rw [wu_ne _ _ (by omega), q2 q (by omega)])
  obtain ⟨k1, k2, k3, k4⟩ := hw2
  refine v_aload_n dX0_push_25 rfl ?_
  refine v_get 1 dX0_push_26 FTX0 (by decide) rfl fl_X0_26 k1 rfl ?_
  refine v_iconst (v := nI 4) dX0_push_29 (by decide) ?_
  refine v_icmp_geN (tgt := 43) dX0_push_30 (by decide) (by omega) (by omega) (fun b30 => ?_) (fun b30 => ?_)
  ·
    refine v_ret dX0_push_43 rfl (Nat.le_refl _) (Nat.le_refl _) ?_
    have e4 : ns = 4 := by omega
    refine ⟨rfl, rfl, ⟨⟨hf, ?_, k2, r3⟩, ?_, by omega, k3⟩, k4⟩
    · rw [k1, e4]
      rfl
    · rw [e4]
      exact Nat.le_refl _
  ·
    refine v_aload_n dX0_push_33 rfl ?_
    refine v_dup dX0_push_34 rfl ?_
    refine v_get 1 dX0_push_35 FTX0 (by decide) rfl fl_X0_26 k1 rfl ?_
    refine v_iconst (v := nI 1) dX0_push_38 (by decide) ?_
    refine v_iaddN dX0_push_39 ?_
    refine v_put 1 dX0_push_40 FTX0 (by decide) rfl fl_X0_26 k1 rfl rfl (Nat.le_of_ble_eq_true rfl) rfl ?_
    refine v_ret dX0_push_43 rfl (Nat.le_refl _) (Nat.le_refl _) ?_
    have e4 : rcn ns = ns + 1 := by
      unfold rcn
      rw [if_neg (by omega)]
    refine ⟨rfl, rfl, ⟨⟨hf, by rw [wu_eq, e4]; rfl, (wu_ne _ _ (by omega)).trans k2, r3⟩, by omega, by omega, fun i hi => (k3 i hi).fr (fun q h1 h2 => wu_ne _ _ (by omega))⟩, k4.wu _ (by omega) (by omega)⟩
set_option maxHeartbeats 1000000 in
set_option maxRecDepth 100000 in
theorem c_popInto {w : Wd} {a ns nx S : Nat} {hh : Nat → Nat → Int32} {g : Nat → Int32} (h : HR w a ns nx hh) (hS : SR w S g) (hd : S + 168 ≤ a ∨ a + 674 ≤ S) (h0n : 0 < ns) : Wr mX0_popInto 5 [.ref a, .ref S] w (fun r' w' => r' = none ∧ HR w' a (ns - 1) ((nx + 4 - 1) % 4) hh ∧ SR w' S (hh ((nx + 4 - 1) % 4)) ∧ ∀ q, (q < a ∨ a + 674 ≤ q) → (q < S ∨ S + 168 ≤ q) → w' q = w q) := by
  intro sz
  refine Ev.ofV [some (.ref a), some (.ref S)] (by decide) (Nat.le_of_ble_eq_true rfl) rfl rfl rfl ?_
  have h0 := h
  obtain ⟨⟨hf, r1, r2, r3⟩, h4, h5, h6⟩ := h0
  refine v_aload_n dX0_popInto_0 rfl ?_
  refine v_aload_n dX0_popInto_1 rfl ?_
  refine v_get 2 dX0_popInto_2 FTX0 (by decide) rfl fl_X0_18 r1 rfl ?_
  refine v_iconst (v := nI 4) dX0_popInto_5 (by decide) ?_
  refine v_iaddN dX0_popInto_6 ?_
  refine v_iconst (v := nI 1) dX0_popInto_7 (by decide) ?_
  refine v_isubN dX0_popInto_8 (by omega) ?_
  refine v_iconst (v := nI 4) dX0_popInto_9 (by decide) ?_
  refine v_irem dX0_popInto_10 (by decide) ?_
  rw [nI_mod4 (by omega)]
  refine v_put 2 dX0_popInto_11 FTX0 (by decide) rfl fl_X0_18 r1 rfl rfl (Nat.le_of_ble_eq_true rfl) rfl ?_
  refine v_aload_n dX0_popInto_14 rfl ?_
  refine v_dup dX0_popInto_15 rfl ?_
  refine v_get 1 dX0_popInto_16 FTX0 (by decide) rfl fl_X0_26 (wu_eq _ _ _) rfl ?_
  refine v_iconst (v := nI 1) dX0_popInto_19 (by decide) ?_
  refine v_isubN dX0_popInto_20 (by omega) ?_
  refine v_put 1 dX0_popInto_21 FTX0 (by decide) rfl fl_X0_26 (wu_eq _ _ _) rfl rfl (Nat.le_of_ble_eq_true rfl) rfl ?_
  refine v_gen (fun w' => w' a = some (ob 0 [.ref (a + 1), .int (nI (ns - 1)), .int (nI ((nx + 4 - 1) % 4))]) ∧ ∀ q, q ≠ a → w' q = w q) ⟨wu_eq _ _ _, fun q hq => (wu_ne _ _ hq).trans (wu_ne _ _ hq)⟩ (fun w1 hw1 => ?_)
  obtain ⟨k1, k2⟩ := hw1
  refine v_aload_n dX0_popInto_24 rfl ?_
  refine v_aload_n dX0_popInto_25 rfl ?_
  refine v_get 0 dX0_popInto_26 FTX0 (by decide) rfl fl_X0_11 k1 rfl ?_
  refine v_aload_n dX0_popInto_29 rfl ?_
  refine v_get 2 dX0_popInto_30 FTX0 (by decide) rfl fl_X0_18 k1 rfl ?_
  refine v_aald _ (by decide) dX0_popInto_33 ((k2 _ (by omega)).trans r2) rfl (by omega) (by decide) (r3 ((nx + 4 - 1) % 4) (by omega)) ?_
  refine v_wV1 oX4_copyFrom dX0_popInto_34 ml_X0_22 (c_scopy (hS.fr (fun q h1 h2 => k2 q (by omega))) ((h6 ((nx + 4 - 1) % 4) (by omega)).fr (fun q h1 h2 => k2 q (by omega))) (by omega)) ((k2 _ (by omega)).trans hS.1.1) (by decide) (Nat.le_of_ble_eq_true rfl) (Nat.le_refl _) (Nat.le_refl _) (fun r' w2 hq => ?_)
  obtain ⟨rfl, q1, q2⟩ := hq
  refine v_ret dX0_popInto_37 rfl (Nat.le_refl _) (Nat.le_refl _) ?_
  exact ⟨rfl, rfl, ⟨⟨hf, (q2 _ (by omega)).trans k1, (q2 _ (by omega)).trans ((k2 _ (by omega)).trans r2), r3⟩, by omega, by omega, fun i hi => (h6 i hi).fr (fun q h1 h2 => (q2 q (by omega)).trans (k2 q (by omega)))⟩, q1, fun q h1 h2 => (q2 q (by omega)).trans (k2 q (by omega))⟩
theorem hnX0 : ∀ j, j < 3 → defaultValue (tyX0 j) = vp_V [.null, .int 0, .int 0] j := by decide
set_option maxHeartbeats 1000000 in
set_option maxRecDepth 100000 in
theorem c_X0init {w : Wd} {a : Nat} (h0 : w a = some (ob 0 [.null, .int 0, .int 0])) : Ev mX0_init 5 [.ref a] w (a + 1) 673 16292 (fun r' w' zz => r' = none ∧ zz = a + 674 ∧ HR w' a 0 0 (fun _ => in5 16) ∧ fr a 674 w w') := by
  refine Ev.ofV [some (.ref a), none] (by decide) (Nat.le_of_ble_eq_true rfl) rfl rfl rfl ?_
  refine v_aload_n dX0_init_0 rfl ?_
  refine v_objInit dX0_init_1 ml_X0_3 (by decide) (Nat.le_of_ble_eq_true rfl) ?_
  refine v_aload_n dX0_init_4 rfl ?_
  refine v_iconst (v := nI 4) dX0_init_5 (by decide) ?_
  refine v_anew (t := 4) (by decide) dX0_init_6 cl_X0_9 (by decide) (by omega) (by omega) ?_
  refine v_putF 0 dX0_init_9 FTX0 (by decide) rfl fl_X0_11 ((wu_ne _ _ (by omega)).trans h0) rfl rfl (Nat.le_of_ble_eq_true rfl) rfl rfl rfl ?_
  refine v_gen (fun w' => ((w' a = some (ob 0 [.ref (a + 1), .int 0, .int 0])) ∧ (∃ F, w' (a + 1) = some (ra 4 4 F) ∧ ∀ q, q < 0 → F q = some (a + 2 + 168 * q)) ∧ (∀ q, q < 0 → SR w' (a + 2 + 168 * q) (in5 16)) ∧ fr a 674 w w')) ⟨wu_eq _ _ _, ⟨fun _ => none, (wu_ne _ _ (by omega)).trans (wu_eq _ _ _), fun q hq => absurd hq (Nat.not_lt_zero _)⟩, fun q hq => absurd hq (Nat.not_lt_zero _), ((fr.rf a 674 w).wu _ (by omega) (by omega)).wu _ (by omega) (by omega)⟩ (fun w1 hw1 => ?_)
  refine v_iconst (v := nI 0) dX0_init_12 (by decide) ?_
  refine v_istore_n dX0_init_13 (by decide) rfl ?_
  have LP14 : ∀ i, i ≤ 4 → ∀ w2 : Wd, ((w2 a = some (ob 0 [.ref (a + 1), .int 0, .int 0])) ∧ (∃ F, w2 (a + 1) = some (ra 4 4 F) ∧ ∀ q, q < i → F q = some (a + 2 + 168 * q)) ∧ (∀ q, q < i → SR w2 (a + 2 + 168 * q) (in5 16)) ∧ fr a 674 w w2) → V mX0_init 5 673 16292 (fun r' w' zz => r' = none ∧ zz = a + 674 ∧ HR w' a 0 0 (fun _ => in5 16) ∧ fr a 674 w w') (w2) (a + 2 + 168 * i) (1 + 168 * i) (4 + 4072 * i) [some (.ref a), some (.int (nI i))] [] 14 := by
    refine dn (fun i hi ih => ?_)
    intro w2 hI2
    obtain ⟨c1, ⟨F, c2, c3⟩, c4, c5⟩ := hI2
    refine v_iload_n dX0_init_14 rfl ?_
    refine v_aload_n dX0_init_15 rfl ?_
    refine v_get 0 dX0_init_16 FTX0 (by decide) rfl fl_X0_11 c1 rfl ?_
    refine v_alenR (by decide) dX0_init_19 c2 ?_
    refine v_icmp_geN (tgt := 42) dX0_init_20 (by decide) (by omega) (by omega) (fun b20 => ?_) (fun b20 => ?_)
    ·
      have e1 : i = 4 := by omega
      subst e1
      refine v_ret dX0_init_42 rfl (by omega) (by omega) ?_
      exact ⟨rfl, by omega, ⟨⟨F, c1, c2, c3⟩, by omega, by omega, c4⟩, c5⟩
    ·
      refine v_aload_n dX0_init_23 rfl ?_
      refine v_get 0 dX0_init_24 FTX0 (by decide) rfl fl_X0_11 c1 rfl ?_
      refine v_iload_n dX0_init_27 rfl ?_
      refine v_new (fs := [.null, .null, .null, .null, .null, .null, .int 0, .int 0, .int 0, .int 0, .int 0]) dX0_init_28 FTX4 cl_X0_9 insX4 iniX4 hnX4 (by omega) (by omega) ?_
      refine v_dup dX0_init_31 rfl ?_
      refine v_callI (As := []) oX4_init dX0_init_32 ml_X0_17 (c_X4init (wu_eq _ _ _)) rfl (by decide) (Nat.le_of_ble_eq_true rfl) (by omega) (by omega) (fun r' w3 zz1 hq => ?_)
      obtain ⟨rfl, rfl, q1, q2⟩ := hq
      refine v_aast _ (by decide) dX0_init_35 ((q2 _ (by omega)).trans ((wu_ne _ _ (by omega)).trans c2)) q1.1.1 rfl (by omega) (by decide) ?_
      refine v_iincN dX0_init_36 (by decide) rfl rfl rfl ?_
      refine v_goto (tgt := 14) dX0_init_39 (by decide) ?_
      refine v_eqc (show 1 + 168 * (i + 1) = _ by omega) (show 4 + 4072 * (i + 1) = _ by omega) ?_
      refine v_eqz (show a + 2 + 168 * (i + 1) = _ by omega) ?_
      exact ih (by omega) _ ⟨(wu_ne _ _ (by omega)).trans ((q2 _ (by omega)).trans ((wu_ne _ _ (by omega)).trans c1)), ⟨_, wu_eq _ _ _, fun q hq => by
        show (if q = i then some (a + 2 + 168 * i) else F q) = _
        by_cases e : q = i
        · rw [if_pos e, e]
        · rw [if_neg e]
          exact c3 q (by omega)⟩, fun q hq => by
        by_cases e : q = i
        · rw [e]
          exact q1.fr (fun z h1 h2 => wu_ne _ _ (by omega))
        · exact (c4 q (by omega)).fr (fun z h1 h2 => by rw [wu_ne _ _ (by omega), q2 _ (by omega), wu_ne _ _ (by omega)]), fun q hq => by rw [wu_ne _ _ (by omega), q2 _ (by omega), wu_ne _ _ (by omega)]; exact c5 q hq⟩
  exact LP14 0 (Nat.zero_le _) w1 hw1
