theorem RR_congr2 {w : Wd} {a n : Nat} {g s : Nat → Int32} {π κ : Nat → Nat} (h : RR w a g n π κ) (hpl : ∀ i, i < n → nt (g (1808 + 65 * κ i + 1)) < 24) (e : ∀ q, q < 2848 → (q = 18 ∨ (32 ≤ q ∧ q < 272) ∨ 1808 ≤ q) → s q = g q) : RR w a s n π κ := by
  obtain ⟨⟨F, r1, r2, r3⟩, hK, hP, hS, hR⟩ := h
  refine ⟨⟨F, by rw [e 18 (by omega) (Or.inl rfl)]; exact r1, r2, r3⟩, hK.congr (fun k hk => e _ (by omega) (by omega)), hP, hS, fun i hi => ?_⟩
  obtain ⟨U, hU⟩ := hR i hi
  have hk := hK.2.1 i hi
  have hp := hpl i hi
  exact ⟨U, hU.congr (fun q h1 h2 => e q (by omega) (by omega)) (fun v hv => by rw [e (32 + 24 * v + nt (g (1808 + 65 * κ i + 1))) (by omega) (by omega)])⟩
theorem fal_n0 {g : Nat → Int32} {D : Nat → Bool} {k : Nat} (ha : ¬ g (1808 + 65 * k + 3) + nI 1 = nI 3) : cnt (fal g (unK D k)) 16 = cnt (fal g D) 16 := by
  refine cnt_congr (fun j hj => ?_)
  by_cases z : j = k
  · subst z
    unfold fal
    rw [decide_eq_false ha]
    simp
  · unfold fal
    rw [unK_ne D z]
theorem fal_n1 {g : Nat → Int32} {D : Nat → Bool} {k : Nat} (hk : k < 16) (hD : D k = false) (h0 : 0 ≤ g (1808 + 65 * k)) (ha : g (1808 + 65 * k + 3) + nI 1 = nI 3) : cnt (fal g (unK D k)) 16 = cnt (fal g D) 16 + 1 := by
  have hf1 : fal g (unK D k) k = true := by
    unfold fal
    rw [unK_k, decide_eq_true h0, decide_eq_true ha]
    rfl
  rw [← cnt_del hf1 hk]
  congr 1
  refine cnt_congr (fun j hj => ?_)
  by_cases z : j = k
  · subst z
    unfold fal
    rw [hD]
    simp
  · have : (j == k) = false := by simpa using z
    rw [this]
    unfold fal
    rw [unK_ne D z]
    simp
theorem add_m1 (x : Int32) : x + Int32.ofInt (-1) = x - nI 1 := by
  rw [Int32.sub_eq_add_neg]
  rfl
/-- the age of a row's rewrite -/
theorem RR_age {w w' : Wd} {a n j U : Nat} {s : Nat → Int32} {π κ : Nat → Nat} {x : Int32} (h : RR w a s n π κ) (hpl : ∀ i, i < n → nt (s (1808 + 65 * κ i + 1)) < 24) (hj : j < n) (hr : RwR w (a + 2 + 4 * π j) s (κ j) U) (ew : w' (a + 2 + 4 * π j) = some (ob 2 [.ref (a + 2 + 4 * π j + 1), .int (s (1808 + 65 * κ j)), .int (s (1808 + 65 * κ j + 1)), .int (s (1808 + 65 * κ j + 2)), .int x, .int (nI U)])) (e : ∀ q, q ≠ a + 2 + 4 * π j → w' q = w q) : RR w' a (upd s (1808 + 65 * κ j + 3) x) n π κ := by
  have hK := h.2.1
  have hkj := hK.2.1 j hj
  have hplj := hpl j hj
  refine RR_row (V := U) h hj (up_ne _ _ (by omega)) (fun k hk => up_ne _ _ (by omega)) (fun q hq => e q (by omega)) ?_ (fun i hi hne b Z hZ => ?_)
  · have ha : ∀ q, q ≠ 1808 + 65 * κ j + 3 → upd s (1808 + 65 * κ j + 3) x q = s q := fun q hq => up_ne _ _ hq
    unfold RwR
    rw [ha _ (by omega), ha _ (by omega), ha _ (by omega), up_eq, ha _ (by omega)]
    refine ⟨⟨ew, (hr.1.2.fr (fun q h1 h2 => e q (by omega))).congr (fun z hz => ha _ (by omega))⟩, hr.2.1, fun v hv => ?_⟩
    rw [ha _ (by omega)]
    exact hr.2.2 v hv
  · have hne2 : κ i ≠ κ j := fun z => hne (hK.inj hi hj (by rw [z]))
    have := hpl i hi
    exact hZ.congr (fun q h1 h2 => up_ne _ _ (by omega)) (fun v hv => by rw [up_ne _ _ (by omega)])
theorem agP_pl {g s : Nat → Int32} {D : Nat → Bool} (h : agP g s D) (hW : WS g) {k : Nat} (hk : k < 16) (h0 : 0 ≤ s (1808 + 65 * k)) : 0 ≤ g (1808 + 65 * k) ∧ nt (s (1808 + 65 * k + 1)) < 24 := by
  have e := h.2.2.2.2.1 k hk
  have h1 : 0 ≤ g (1808 + 65 * k) := by
    cases hf : fal g D k
    · rw [hf, if_neg (by decide)] at e
      rw [← e]; exact h0
    · rw [hf, if_pos rfl] at e
      rw [e] at h0
      exact absurd h0 (by decide)
  refine ⟨h1, ?_⟩
  rw [h.2.2.2.1 k hk 1 (by omega) (by omega) (by omega)]
  exact (hW.rw hk h1).2.1.2
set_option maxHeartbeats 2000000 in
set_option maxRecDepth 100000 in
theorem c_growOlder {w : Wd} {a n : Nat} {g : Nat → Int32} {π κ : Nat → Nat} (h : RR w a g n π κ) (hW : WS g) : Wr mX3_growOlder 1 [.ref a] w (fun r' w' => ∃ n' π' κ', r' = some (.int (nI (cnt (fal g (fun _ => true)) 16))) ∧ RR w' a (agS g 16) n' π' κ' ∧ fr a 66 w w') := by
  intro sz
  refine Ev.ofV [some (.ref a), none, none] (by decide) (Nat.le_of_ble_eq_true rfl) rfl rfl rfl ?_
  have h0 := h
  obtain ⟨⟨F, r1, r2, r3⟩, hK, hP, hS, hR⟩ := h0
  have hn := hK.1
  refine v_iconst (v := nI 0) dX3_growOlder_0 (by decide) ?_
  refine v_istore_n dX3_growOlder_1 (by decide) rfl ?_
  refine v_aload_n dX3_growOlder_2 rfl ?_
  refine v_get 1 dX3_growOlder_3 FTX3 (by decide) rfl fl_X3_18 r1 rfl ?_
  refine v_iconst (v := nI 1) dX3_growOlder_6 (by decide) ?_
  refine v_isub dX3_growOlder_7 ?_
  refine v_istore_n dX3_growOlder_8 (by decide) rfl ?_
  have LP9 : ∀ t, t ≤ n → ∀ (w2 : Wd) (n2 : Nat) (π2 κ2 : Nat → Nat) (s : Nat → Int32) (D : Nat → Bool), (RR w2 a s n2 π2 κ2 ∧ agP g s D ∧ fr a 66 w w2 ∧ n - t ≤ n2 ∧ (∀ i, i < n - t → κ2 i = κ i) ∧ (∀ k, D k = true ↔ ∃ i, n - t ≤ i ∧ i < n ∧ κ i = k)) → V mX3_growOlder 1 0 0 (fun r' w' zz => zz = sz ∧ (∃ n' π' κ', r' = some (.int (nI (cnt (fal g (fun _ => true)) 16))) ∧ RR w' a (agS g 16) n' π' κ' ∧ fr a 66 w w')) (w2) (sz) (0) (0) [some (.ref a), some (.int (nI (cnt (fal g D) 16))), some (.int ((nI (n - t)) - nI 1))] [] 9 := by
    refine dn (fun t ht ih => ?_)
    intro w2 n2 π2 κ2 s D hI2
    obtain ⟨c1, c2, c3, c4, c5, c6⟩ := hI2
    refine v_iload_n dX3_growOlder_9 rfl ?_
    refine v_if_lt (tgt := 55) dX3_growOlder_10 (by decide) (fun b10 => ?_) (fun b10 => ?_)
    ·
      have e0 : n - t = 0 := by
        have := (nI_sub_neg (a := n - t) (b := 1) (by omega) (by omega)).mp b10
        omega
      have hDl : ∀ k, k < 16 → (true && decide (0 ≤ g (1808 + 65 * k))) = (D k && decide (0 ≤ g (1808 + 65 * k))) := fun k hk => by
        by_cases z : 0 ≤ g (1808 + 65 * k)
        · obtain ⟨i, hi, y⟩ := hK.2.2.2 k hk z
          rw [(c6 k).mpr ⟨i, by omega, hi, y⟩]
        · rw [decide_eq_false z]
          simp
      have hDs : ∀ k, k < 16 → (decide (k < 16) && decide (0 ≤ g (1808 + 65 * k))) = (D k && decide (0 ≤ g (1808 + 65 * k))) := fun k hk => by
        rw [← hDl k hk, decide_eq_true hk]
      have heq := agP_eq c2 (agS_P g 16 (Nat.le_refl _)) hDs
      have hcn : cnt (fal g D) 16 = cnt (fal g (fun _ => true)) 16 := cnt_congr (fun k hk => by
        unfold fal
        rw [← hDl k hk])
      refine v_iload_n dX3_growOlder_55 rfl ?_
      refine v_iret dX3_growOlder_56 rfl (Nat.le_refl _) (Nat.le_refl _) ?_
      exact ⟨rfl, n2, π2, κ2, by rw [hcn], RR_congr2 c1 (fun i hi => (agP_pl c2 hW (c1.2.1.2.1 i hi).1 (c1.2.1.2.1 i hi).2).2) (fun q hq _ => (heq q hq).symm), c3⟩
    ·
      have hnt : 1 ≤ n - t := by
        have : ¬ n - t < 1 := fun z => b10 ((nI_sub_neg (a := n - t) (b := 1) (by omega) (by omega)).mpr z)
        omega
      rw [nI_subN hnt]
      have c1b := c1
      obtain ⟨⟨F2, c11, c12, c13⟩, hK2, hP2, hS2, hR2⟩ := c1b
      have hn2 := hK2.1
      have hj2 : (n - t - 1) < n2 := by omega
      have ek : κ2 (n - t - 1) = κ (n - t - 1) := c5 _ (by omega)
      have hkj := hK.2.1 (n - t - 1) (by omega)
      have hpj2 := hP2.1 (n - t - 1) (by omega)
      have hDk : D (κ (n - t - 1)) = false := by
        cases z : D (κ (n - t - 1))
        · rfl
        · obtain ⟨i, i1, i2, i3⟩ := (c6 _).mp z
          have := hK.inj i2 (show (n - t - 1) < n by omega) (by rw [i3])
          omega
      have hfk : fal g D (κ (n - t - 1)) = false := by
        unfold fal
        rw [hDk]
        rfl
      have es0 : s (1808 + 65 * κ (n - t - 1)) = g (1808 + 65 * κ (n - t - 1)) := by rw [c2.2.2.2.2.1 _ hkj.1, hfk, if_neg (by decide)]
      have hs3 : g (1808 + 65 * κ (n - t - 1) + 3) = s (1808 + 65 * κ (n - t - 1) + 3) := by rw [c2.2.2.2.2.2.1 _ hkj.1, hDk, if_neg (by simp)]
      have hx := (hW.rw hkj.1 hkj.2).2.2.2.1
      have hx2 := hx.2
      have hpl2 : ∀ i, i < n2 → nt (s (1808 + 65 * κ2 i + 1)) < 24 := fun i hi => (agP_pl c2 hW (hK2.2.1 i hi).1 (hK2.2.1 i hi).2).2
      have hpl3 : ∀ i, i < n2 → nt (upd s (1808 + 65 * κ (n - t - 1) + 3) (s (1808 + 65 * κ (n - t - 1) + 3) + nI 1) (1808 + 65 * κ2 i + 1)) < 24 := fun i hi => by
        have := (hK2.2.1 i hi).1
        rw [up_ne _ _ (by omega)]
        exact hpl2 i hi
      obtain ⟨Vt, hr⟩ := hR2 (n - t - 1) hj2
      have hD6 : ∀ k, unK D (κ (n - t - 1)) k = true ↔ ∃ i, n - (t + 1) ≤ i ∧ i < n ∧ κ i = k := fun k => by
        unfold unK
        rw [Bool.or_eq_true, c6 k]
        constructor
        · rintro (⟨i, i1, i2, i3⟩ | z)
          · exact ⟨i, by omega, i2, i3⟩
          · exact ⟨(n - t - 1), by omega, by omega, by simpa using (by simpa using z : k = κ (n - t - 1)).symm⟩
        · rintro ⟨i, i1, i2, i3⟩
          by_cases e : i = (n - t - 1)
          · right
            rw [← i3, e]
            simp
          · exact Or.inl ⟨i, by omega, i2, i3⟩
      have hst := agP_step c2 hkj.1 hDk
      refine v_aload_n dX3_growOlder_13 rfl ?_
      refine v_get 0 dX3_growOlder_14 FTX3 (by decide) rfl fl_X3_11 c11 rfl ?_
      refine v_iload_n dX3_growOlder_17 rfl ?_
      refine v_aald _ (by decide) dX3_growOlder_18 c12 rfl (by omega) (by decide) (c13 (n - t - 1) (by omega)) ?_
      refine v_dup dX3_growOlder_19 rfl ?_
      refine v_get 4 dX3_growOlder_20 FTX2 (by decide) rfl fl_X3_75 hr.1.1 rfl ?_
      refine v_iconst (v := nI 1) dX3_growOlder_23 (by decide) ?_
      refine v_iadd dX3_growOlder_24 ?_
      refine v_put 4 dX3_growOlder_25 FTX2 (by decide) rfl fl_X3_75 hr.1.1 rfl rfl (Nat.le_of_ble_eq_true rfl) rfl ?_
      refine v_gen (fun w' => RR w' a (upd s (1808 + 65 * κ2 (n - t - 1) + 3) (s (1808 + 65 * κ2 (n - t - 1) + 3) + nI 1)) n2 π2 κ2 ∧ fr a 66 w w') ⟨RR_age c1 hpl2 hj2 hr (wu_eq _ _ _) (fun q hq => wu_ne _ _ hq), c3.wu _ (by omega) (by omega)⟩ (fun w3 hw3 => ?_)
      obtain ⟨d1, d2⟩ := hw3
      rw [ek] at d1
      have d1b := d1
      obtain ⟨⟨F3, c21, c22, c23⟩, hK3, hP3, hS3, hR3⟩ := d1b
      obtain ⟨Vu, hu⟩ := hR3 (n - t - 1) hj2
      refine v_aload_n dX3_growOlder_28 rfl ?_
      refine v_get 0 dX3_growOlder_29 FTX3 (by decide) rfl fl_X3_11 c21 rfl ?_
      refine v_iload_n dX3_growOlder_32 rfl ?_
      refine v_aald _ (by decide) dX3_growOlder_33 c22 rfl (by omega) (by decide) (c23 (n - t - 1) (by omega)) ?_
      refine v_get 4 dX3_growOlder_34 FTX2 (by decide) rfl fl_X3_75 hu.1.1 rfl ?_
      rw [ek, up_eq, ← hs3, hx.1, nI_addN]
      refine v_iconst (v := nI 3) dX3_growOlder_37 (by decide) ?_
      refine v_icmp_ltN (tgt := 49) dX3_growOlder_38 (by decide) (by omega) (by omega) (fun b38 => ?_) (fun b38 => ?_)
      ·
        have ha : ¬ g (1808 + 65 * κ (n - t - 1) + 3) + nI 1 = nI 3 := by
          rw [hx.1, nI_addN]
          intro z
          have := nI_inj (by omega) (by omega) z
          omega
        have hag : agk s (κ (n - t - 1)) = upd s (1808 + 65 * κ (n - t - 1) + 3) (s (1808 + 65 * κ (n - t - 1) + 3) + nI 1) := by
          unfold agk
          rw [if_pos (by rw [es0]; exact hkj.2), if_neg (by rw [← hs3]; exact ha)]
        rw [hag] at hst
        refine v_iinc dX3_growOlder_49 (by decide) rfl rfl rfl ?_
        refine v_goto (tgt := 9) dX3_growOlder_52 (by decide) ?_
        refine v_eqL ?_ (ih (by omega) w3 n2 π2 κ2 _ (unK D (κ (n - t - 1))) ⟨d1, hst, d2, by omega, fun i hi => c5 i (by omega), hD6⟩)
        rw [fal_n0 ha]
        show _ = ([some (.ref a), some (.int (nI (cnt (fal g D) 16))), some (.int (nI (n - t - 1) + Int32.ofInt (-1)))] : List (Option Value))
        rw [add_m1]
        rfl
      ·
        have ha : g (1808 + 65 * κ (n - t - 1) + 3) + nI 1 = nI 3 := by
          rw [hx.1, nI_addN]
          congr 1
          omega
        have hag : agk s (κ (n - t - 1)) = upd (gone (upd s (1808 + 65 * κ (n - t - 1) + 3) (s (1808 + 65 * κ (n - t - 1) + 3) + nI 1)) (κ (n - t - 1))) 20 (s 20 + nI 1) := by
          unfold agk
          rw [if_pos (by rw [es0]; exact hkj.2), if_pos (by rw [← hs3]; exact ha)]
        rw [hag] at hst
        refine v_aload_n dX3_growOlder_41 rfl ?_
        refine v_iload_n dX3_growOlder_42 rfl ?_
        refine v_wV1 oX3_removeAt dX3_growOlder_43 ml_X3_36 (c_removeAt d1 hpl3 (n - t - 1) hj2) c21 (by decide) (Nat.le_of_ble_eq_true rfl) (Nat.le_refl _) (Nat.le_refl _) (fun r' w4 hq => ?_)
        obtain ⟨rfl, q1, q2⟩ := hq
        refine v_iincN dX3_growOlder_46 (by decide) rfl rfl rfl ?_
        refine v_iinc dX3_growOlder_49 (by decide) rfl rfl rfl ?_
        refine v_goto (tgt := 9) dX3_growOlder_52 (by decide) ?_
        rw [ek] at q1
        have q1b : RR w4 a (upd (gone (upd s (1808 + 65 * κ (n - t - 1) + 3) (s (1808 + 65 * κ (n - t - 1) + 3) + nI 1)) (κ (n - t - 1))) 20 (s 20 + nI 1)) (n2 - 1) (cutP π2 n2 (n - t - 1)) (cutK κ2 (n - t - 1)) := RR_congr2 q1 (fun i hi => by
          have hki := q1.2.1.2.1 i hi
          have hkj2 : cutK κ2 (n - t - 1) i ≠ κ (n - t - 1) := fun z => by
            rw [z, gone_k] at hki
            exact absurd hki.2 (by decide)
          rw [gone_out (by omega) (by omega), up_ne _ _ (by omega)] at hki ⊢
          exact (agP_pl c2 hW hki.1 hki.2).2) (fun q hq hq2 => up_ne _ _ (by omega))
        refine v_eqL ?_ (ih (by omega) w4 (n2 - 1) (cutP π2 n2 (n - t - 1)) (cutK κ2 (n - t - 1)) _ (unK D (κ (n - t - 1))) ⟨q1b, hst, d2.tr q2, by omega, fun i hi => by unfold cutK; rw [if_pos (by omega)]; exact c5 i (by omega), hD6⟩)
        rw [fal_n1 hkj.1 hDk hkj.2 ha]
        show _ = ([some (.ref a), some (.int (nI (cnt (fal g D) 16 + 1))), some (.int (nI (n - t - 1) + Int32.ofInt (-1)))] : List (Option Value))
        rw [add_m1]
        rfl
  refine v_eqL ?_ (LP9 0 (Nat.zero_le _) w n π κ g (fun _ => false) ⟨h, agP_0 g (fun k _ => by simp), fr.rf _ _ _, by omega, fun i _ => rfl, fun k => ⟨fun z => (by cases z), fun ⟨i, h1, h2, _⟩ => by omega⟩⟩)
  rw [cnt_0 (p := fal g (fun _ => false)) (fun k hk => by unfold fal; simp)]
  rfl
