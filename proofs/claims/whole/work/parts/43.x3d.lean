theorem rwt_out {s tx : Nat → Int32} {k p v tn q : Nat} {x : Int32} (h : q < 1808 + 65 * k ∨ 1808 + 65 * k + 65 ≤ q) (h18 : q ≠ 18) (ht : tn ≤ 60) : rwtS s k p v x tx tn q = s q := by
  unfold rwtS
  rw [up_ne _ _ h18, lay_out (by omega), up_ne _ _ (by omega), up_ne _ _ (by omega), up_ne _ _ (by omega), up_ne _ _ (by omega), up_ne _ _ (by omega)]
theorem rwt_0 {s tx : Nat → Int32} {k p v tn : Nat} {x : Int32} : rwtS s k p v x tx tn (1808 + 65 * k) = x := by
  unfold rwtS
  rw [up_ne _ _ (by omega), lay_out (by omega), up_ne _ _ (by omega), up_ne _ _ (by omega), up_ne _ _ (by omega), up_ne _ _ (by omega), up_eq]
theorem rwt_1 {s tx : Nat → Int32} {k p v tn : Nat} {x : Int32} : rwtS s k p v x tx tn (1808 + 65 * k + 1) = nI p := by
  unfold rwtS
  rw [up_ne _ _ (by omega), lay_out (by omega), up_ne _ _ (by omega), up_ne _ _ (by omega), up_ne _ _ (by omega), up_eq]
theorem rwt_2 {s tx : Nat → Int32} {k p v tn : Nat} {x : Int32} : rwtS s k p v x tx tn (1808 + 65 * k + 2) = nI v := by
  unfold rwtS
  rw [up_ne _ _ (by omega), lay_out (by omega), up_ne _ _ (by omega), up_ne _ _ (by omega), up_eq]
theorem rwt_3 {s tx : Nat → Int32} {k p v tn : Nat} {x : Int32} : rwtS s k p v x tx tn (1808 + 65 * k + 3) = nI 0 := by
  unfold rwtS
  rw [up_ne _ _ (by omega), lay_out (by omega), up_ne _ _ (by omega), up_eq]
theorem rwt_4 {s tx : Nat → Int32} {k p v tn : Nat} {x : Int32} : rwtS s k p v x tx tn (1808 + 65 * k + 4) = nI tn := by
  unfold rwtS
  rw [up_ne _ _ (by omega), lay_out (by omega), up_eq]
theorem rwt_5 {s tx : Nat → Int32} {k p v tn j : Nat} {x : Int32} (hj : j < tn) : rwtS s k p v x tx tn (1808 + 65 * k + 5 + j) = tx j := by
  unfold rwtS
  rw [up_ne _ _ (by omega)]
  unfold lay
  rw [if_pos (by omega), show 1808 + 65 * k + 5 + j - (1808 + 65 * k + 5) = j by omega]
theorem rwt_18 {s tx : Nat → Int32} {k p v tn : Nat} {x : Int32} : rwtS s k p v x tx tn 18 = x + nI 1 := by
  unfold rwtS
  rw [up_eq]
theorem RR_new {w w' : Wd} {a n k p v tn : Nat} {g tx : Nat → Int32} {π κ : Nat → Nat} (h : RR w a g n π κ) (hW : WS g) (hI : VI g) (hn : n < 16) (hk : k < 16) (hf : ¬ 0 ≤ g (1808 + 65 * k)) (hp : p < 24) (hv : v < 10) (e1 : w' a = some (ob 3 [.ref (a + 1), .int (nI (n + 1)), .int (g 18 + nI 1)])) (hr : RO w' (a + 2 + 4 * π n) (g 18) (nI p) (nI v) (nI 0) (nI 0) tx tn) (ew : ∀ q, q ≠ a → (q < a + 2 + 4 * π n ∨ a + 2 + 4 * π n + 4 ≤ q) → w' q = w q) : RR w' a (rwtS g k p v (g 18) tx tn) (n + 1) π (upK κ n k) := by
  obtain ⟨⟨F, r1, r2, r3⟩, hK, hP, hS, hR⟩ := h
  have hpn := hP.1 n hn
  have htn := hr.2.sz.2
  have h18 := hW.2.2.2.2.1
  have hne : ∀ i, i < n → κ i ≠ k := fun i hi z => hf (by rw [← z]; exact (hK.2.1 i hi).2)
  have hlt : ∀ i, i < n → g (1808 + 65 * κ i) < g 18 := fun i hi => by
    have := (hW.rw (hK.2.1 i hi).1 (hK.2.1 i hi).2).1
    rw [this.1, h18.1]
    exact (nI_ltN (by have := this.2; have := h18.2; omega) (by have := h18.2; omega)).mpr this.2
  have h180 : (0 : Int32) ≤ g 18 := by
    rw [h18.1]
    exact nI_0le (by have := h18.2; omega)
  refine ⟨⟨F, by rw [rwt_18]; exact e1, by rw [ew _ (by omega) (by omega)]; exact r2, r3⟩, KR_new hK hn hk hf (fun j hj hjk => rwt_out (by omega) (by omega) htn) (by rw [rwt_0]; exact h180) (fun i hi => by rw [rwt_0]; exact hlt i hi), hP, fun i hi => ?_, fun i hi => ?_⟩
  · by_cases z : i = π n
    · rw [z]
      exact ⟨_, _, _, _, _, _, _, hr⟩
    · obtain ⟨x1, x2, x3, x4, x5, f, m, ho⟩ := hS i hi
      exact ⟨x1, x2, x3, x4, x5, f, m, ho.fr (fun q h1 h2 => ew q (by omega) (by omega))⟩
  · unfold upK
    by_cases z : i = n
    · rw [if_pos z, z]
      refine ⟨0, ?_, by omega, fun u hu => ?_⟩
      · rw [rwt_0, rwt_1, rwt_2, rwt_3, rwt_4, nt_nI (by omega)]
        exact ⟨hr.1, hr.2.congr (fun j hj => rwt_5 hj)⟩
      · rw [rwt_0, rwt_1, nt_nI (by omega), rwt_out (by omega) (by omega) htn, Nat.zero_testBit]
        have : ¬ g (32 + 24 * u + p) = g 18 := fun y => by
          rcases hI (24 * u + p) (by omega) with x | ⟨j, hj, j0, j1, -⟩
          · rw [← Nat.add_assoc, y] at x
            exact i_m1 h180 x
          · obtain ⟨i', hi', y2⟩ := hK.2.2.2 j hj j0
            have := hlt i' hi'
            rw [y2, ← j1, ← Nat.add_assoc, y] at this
            exact i_irr this
        symm
        simpa using this
    · rw [if_neg z]
      obtain ⟨U, hU⟩ := hR i (by omega)
      have hki := hK.2.1 i (by omega)
      have hni := hne i (by omega)
      have hpl := (hW.rw hki.1 hki.2).2.1.2
      have hpi : π i ≠ π n := fun y => z (hP.2 i n (by omega) hn y)
      have hpib := hP.1 i (by omega)
      exact ⟨U, (hU.congr (fun q h1 h2 => rwt_out (by omega) (by omega) htn) (fun u hu => by rw [rwt_out (by omega) (by omega) htn])).fr (fun q h1 h2 => ew q (by omega) (by omega))⟩
set_option maxHeartbeats 2000000 in
set_option maxRecDepth 100000 in
theorem c_hand19 {w : Wd} {a n : Nat} {g : Nat → Int32} {π κ : Nat → Nat} (h : RR w a g n π κ) {b tn k p v : Nat} {tx : Nat → Int32} (hW : WS g) (hI : VI g) (hb : WO w b tx tn) (hd : b + 3 ≤ a ∨ a + 66 ≤ b) (hp : p < 24) (hv : v < 10) (hn16 : n < 16) (hk : k < 16) (hf : ¬ 0 ≤ g (1808 + 65 * k)) {sz : Nat} {x4 : Int32} {Po : Option Value → Wd → Nat → Prop} (hPo : ∀ w', RR w' a (rwtS g k p v (g 18) tx tn) (n + 1) π (upK κ n k) → fr a 66 w w' → Po (some (.int (g 18))) w' sz) : V mX3_handIn 3 0 0 Po (w) sz 0 0 [some (.ref a), some (.int (nI v)), some (.int (nI p)), some (.ref b), some (.int x4), none] [] 19 := by
  have h0 := h
  obtain ⟨⟨F, r1, r2, r3⟩, hK, hP, hS, hR⟩ := h0
  have hn := hK.1
  have hpn := hP.1 n hn16
  obtain ⟨x1, x2, x3, xx4, x5, f, m, ho⟩ := hS (π n) hpn
  refine v_aload_n dX3_handIn_19 rfl ?_
  refine v_get 2 dX3_handIn_20 FTX3 (by decide) rfl fl_X3_22 r1 rfl ?_
  refine v_istore dX3_handIn_23 (by decide) rfl ?_
  refine v_aload_n dX3_handIn_25 rfl ?_
  refine v_get 1 dX3_handIn_26 FTX3 (by decide) rfl fl_X3_18 r1 rfl ?_
  refine v_bipush (v := nI 16) dX3_handIn_29 (by decide) ?_
  refine v_icmp_geN (tgt := 71) dX3_handIn_31 (by decide) (by omega) (by omega) (fun b31 => ?_) (fun b31 => ?_)
  ·
    exact absurd b31 (by omega)
  ·
    refine v_aload_n dX3_handIn_34 rfl ?_
    refine v_get 0 dX3_handIn_35 FTX3 (by decide) rfl fl_X3_11 r1 rfl ?_
    refine v_aload_n dX3_handIn_38 rfl ?_
    refine v_get 1 dX3_handIn_39 FTX3 (by decide) rfl fl_X3_18 r1 rfl ?_
    refine v_aald _ (by decide) dX3_handIn_42 r2 rfl (by omega) (by decide) (r3 n (by omega)) ?_
    refine v_iload dX3_handIn_43 rfl ?_
    refine v_iload_n dX3_handIn_45 rfl ?_
    refine v_iload_n dX3_handIn_46 rfl ?_
    refine v_aload_n dX3_handIn_47 rfl ?_
    refine v_wV4 oX2_become dX3_handIn_48 ml_X3_40 (c_rbecome ho hb (by omega) (g 18) (nI v) (nI p)) ho.1 (by decide) (Nat.le_of_ble_eq_true rfl) (Nat.le_refl _) (Nat.le_refl _) (fun r' w2 hq => ?_)
    obtain ⟨rfl, q1, q2⟩ := hq
    refine v_aload_n dX3_handIn_51 rfl ?_
    refine v_dup dX3_handIn_52 rfl ?_
    refine v_get 1 dX3_handIn_53 FTX3 (by decide) rfl fl_X3_18 ((q2 _ (by omega)).trans r1) rfl ?_
    refine v_iconst (v := nI 1) dX3_handIn_56 (by decide) ?_
    refine v_iaddN dX3_handIn_57 ?_
    refine v_put 1 dX3_handIn_58 FTX3 (by decide) rfl fl_X3_18 ((q2 _ (by omega)).trans r1) rfl rfl (Nat.le_of_ble_eq_true rfl) rfl ?_
    refine v_aload_n dX3_handIn_61 rfl ?_
    refine v_dup dX3_handIn_62 rfl ?_
    refine v_get 2 dX3_handIn_63 FTX3 (by decide) rfl fl_X3_22 (wu_eq _ _ _) rfl ?_
    refine v_iconst (v := nI 1) dX3_handIn_66 (by decide) ?_
    refine v_iadd dX3_handIn_67 ?_
    refine v_put 2 dX3_handIn_68 FTX3 (by decide) rfl fl_X3_22 (wu_eq _ _ _) rfl rfl (Nat.le_of_ble_eq_true rfl) rfl ?_
    refine v_iload dX3_handIn_71 rfl ?_
    refine v_iret dX3_handIn_73 rfl (Nat.le_refl _) (Nat.le_refl _) ?_
    exact hPo _ (RR_new h hW hI hn16 hk hf hp hv (by rw [wu_eq]; rfl) (q1.fr (fun q h1 h2 => by rw [wu_ne _ _ (by omega), wu_ne _ _ (by omega)])) (fun q h1 h2 => by rw [wu_ne _ _ h1, wu_ne _ _ h1, q2 q (by omega)])) (fun q hq => by rw [wu_ne _ _ (by omega), wu_ne _ _ (by omega), q2 q (by omega)])
set_option maxHeartbeats 2000000 in
set_option maxRecDepth 100000 in
theorem c_handN {w : Wd} {a n : Nat} {g : Nat → Int32} {π κ : Nat → Nat} (h : RR w a g n π κ) {b tn k p v : Nat} {tx : Nat → Int32} (hW : WS g) (hI : VI g) (hb : WO w b tx tn) (hd : b + 3 ≤ a ∨ a + 66 ≤ b) (hp : p < 24) (hv : v < 10) (hn16 : n < 16) (hk : k < 16) (hf : ¬ 0 ≤ g (1808 + 65 * k)) (hx : ∀ i, i < n → ¬ (g (1808 + 65 * κ i + 2) = nI v ∧ g (1808 + 65 * κ i + 1) = nI p)) : Wr mX3_handIn 3 [.ref a, .int (nI v), .int (nI p), .ref b] w (fun r' w' => r' = some (.int (g 18)) ∧ ∃ n' π' κ', RR w' a (rwtS g k p v (g 18) tx tn) n' π' κ' ∧ fr a 66 w w') := by
  intro sz
  refine Ev.ofV [some (.ref a), some (.int (nI v)), some (.int (nI p)), some (.ref b), none, none] (by decide) (Nat.le_of_ble_eq_true rfl) rfl rfl rfl ?_
  have h0 := h
  obtain ⟨⟨F, r1, r2, r3⟩, hK, hP, hS, hR⟩ := h0
  have hn := hK.1
  refine v_aload_n dX3_handIn_0 rfl ?_
  refine v_iload_n dX3_handIn_1 rfl ?_
  refine v_iload_n dX3_handIn_2 rfl ?_
  refine u_rV2 oX3_indexBy dX3_handIn_3 ml_X3_32 (c_indexN h (nI v) (nI p) hx) r1 (by decide) (Nat.le_of_ble_eq_true rfl) (Nat.le_refl _) (Nat.le_refl _) ?_
  refine v_istore dX3_handIn_6 (by decide) rfl ?_
  refine v_iload dX3_handIn_8 rfl ?_
  refine v_if_lt (tgt := 19) dX3_handIn_10 (by decide) (fun b10 => ?_) (fun b10 => ?_)
  ·
    refine v_drop 5 ?_
    refine c_hand19 h hW hI hb hd hp hv hn16 hk hf (fun w' q1 q2 => ⟨rfl, rfl, _, _, _, q1, q2⟩)
  ·
    exact absurd (by decide) b10
set_option maxHeartbeats 2000000 in
set_option maxRecDepth 100000 in
theorem c_handS {w : Wd} {a n : Nat} {g : Nat → Int32} {π κ : Nat → Nat} (h : RR w a g n π κ) {b tn k p v : Nat} {tx : Nat → Int32} (hW : WS g) (hI : VI g) (hb : WO w b tx tn) (hd : b + 3 ≤ a ∨ a + 66 ≤ b) (hp : p < 24) (hv : v < 10) (j : Nat) (hj : j < n) (hx : (g (1808 + 65 * κ j + 2) = nI v ∧ g (1808 + 65 * κ j + 1) = nI p)) (hu : ∀ i, i < n → (g (1808 + 65 * κ i + 2) = nI v ∧ g (1808 + 65 * κ i + 1) = nI p) → i = j) : Wr mX3_handIn 3 [.ref a, .int (nI v), .int (nI p), .ref b] w (fun r' w' => r' = some (.int (g 18)) ∧ ∃ n' π' κ', RR w' a (rwtS (gone g (κ j)) (κ j) p v (g 18) tx tn) n' π' κ' ∧ fr a 66 w w') := by
  intro sz
  refine Ev.ofV [some (.ref a), some (.int (nI v)), some (.int (nI p)), some (.ref b), none, none] (by decide) (Nat.le_of_ble_eq_true rfl) rfl rfl rfl ?_
  have h0 := h
  obtain ⟨⟨F, r1, r2, r3⟩, hK, hP, hS, hR⟩ := h0
  have hn := hK.1
  have hkj := hK.2.1 j hj
  have hpl : ∀ i, i < n → nt (g (1808 + 65 * κ i + 1)) < 24 := fun i hi => (hW.rw (hK.2.1 i hi).1 (hK.2.1 i hi).2).2.1.2
  refine v_aload_n dX3_handIn_0 rfl ?_
  refine v_iload_n dX3_handIn_1 rfl ?_
  refine v_iload_n dX3_handIn_2 rfl ?_
  refine u_rV2 oX3_indexBy dX3_handIn_3 ml_X3_32 (c_indexS h (nI v) (nI p) j hj hx hu) r1 (by decide) (Nat.le_of_ble_eq_true rfl) (Nat.le_refl _) (Nat.le_refl _) ?_
  refine v_istore dX3_handIn_6 (by decide) rfl ?_
  refine v_iload dX3_handIn_8 rfl ?_
  refine v_if_ltN (tgt := 19) dX3_handIn_10 (by decide) (by omega) ?_
  refine v_aload_n dX3_handIn_13 rfl ?_
  refine v_iload dX3_handIn_14 rfl ?_
  refine v_wV1 oX3_removeAt dX3_handIn_16 ml_X3_36 (c_removeAt h hpl j hj) r1 (by decide) (Nat.le_of_ble_eq_true rfl) (Nat.le_refl _) (Nat.le_refl _) (fun r' w1 hq => ?_)
  obtain ⟨rfl, q1, q2⟩ := hq
  have e18 : gone g (κ j) 18 = g 18 := gone_out (by omega) (by omega)
  refine v_drop 5 ?_
  refine c_hand19 (k := κ j) q1 (WS_gone hW hkj.1) (VI_gone hI hkj.1) (hb.fr (fun q h1 h2 => q2 q (by omega))) hd hp hv (by omega) hkj.1 (by rw [gone_k]; decide) (fun w' q3 q4 => ⟨rfl, by rw [e18], _, _, _, by rw [e18] at q3; exact q3, q2.tr q4⟩)
set_option maxHeartbeats 2000000 in
set_option maxRecDepth 100000 in
theorem c_rcopy3 {w : Wd} {a n : Nat} {g : Nat → Int32} {π κ : Nat → Nat} (h : RR w a g n π κ) {b m : Nat} {s : Nat → Int32} {π2 κ2 : Nat → Nat} (hb : RR w b s m π2 κ2) (hd : b + 66 ≤ a ∨ a + 66 ≤ b) : Wr mX3_copyFrom 3 [.ref a, .ref b] w (fun r' w' => r' = none ∧ RR w' a s m π κ2 ∧ fr a 66 w w') := by
  intro sz
  refine Ev.ofV [some (.ref a), some (.ref b), none] (by decide) (Nat.le_of_ble_eq_true rfl) rfl rfl rfl ?_
  have h0 := h
  obtain ⟨⟨F, r1, r2, r3⟩, hK, hP, hS, hR⟩ := h0
  have hn := hK.1
  obtain ⟨⟨F2, b1, b2, b3⟩, hK2, hP2, hS2, hR2⟩ := hb
  have hm := hK2.1
  refine v_aload_n dX3_copyFrom_0 rfl ?_
  refine v_aload_n dX3_copyFrom_1 rfl ?_
  refine v_get 1 dX3_copyFrom_2 FTX3 (by decide) rfl fl_X3_18 b1 rfl ?_
  refine v_put 1 dX3_copyFrom_5 FTX3 (by decide) rfl fl_X3_18 r1 rfl rfl (Nat.le_of_ble_eq_true rfl) rfl ?_
  refine v_aload_n dX3_copyFrom_8 rfl ?_
  refine v_aload_n dX3_copyFrom_9 rfl ?_
  refine v_get 2 dX3_copyFrom_10 FTX3 (by decide) rfl fl_X3_22 ((wu_ne _ _ (by omega)).trans b1) rfl ?_
  refine v_put 2 dX3_copyFrom_13 FTX3 (by decide) rfl fl_X3_22 (wu_eq _ _ _) rfl rfl (Nat.le_of_ble_eq_true rfl) rfl ?_
  refine v_gen (fun w' => w' a = some (ob 3 [.ref (a + 1), .int (nI m), .int (s 18)]) ∧ ∀ q, q ≠ a → w' q = w q) ⟨wu_eq _ _ _, fun q hq => (wu_ne _ _ hq).trans (wu_ne _ _ hq)⟩ (fun w1 hw1 => ?_)
  obtain ⟨g1, g2⟩ := hw1
  refine v_iconst (v := nI 0) dX3_copyFrom_16 (by decide) ?_
  refine v_istore_n dX3_copyFrom_17 (by decide) rfl ?_
  have LP18 : ∀ i, i ≤ m → ∀ w2 : Wd, (w2 a = some (ob 3 [.ref (a + 1), .int (nI m), .int (s 18)]) ∧ w2 (a + 1) = some (ra 3 16 F) ∧ (∀ j, j < 16 → ∃ x1 x2 x3 x4 x5 f m, RO w2 (a + 2 + 4 * j) x1 x2 x3 x4 x5 f m) ∧ (∀ j, j < i → ∃ U, RwR w2 (a + 2 + 4 * π j) s (κ2 j) U) ∧ fr a 66 w w2) → V mX3_copyFrom 3 0 0 (fun r' w' zz => zz = sz ∧ (r' = none ∧ RR w' a s m π κ2 ∧ fr a 66 w w')) (w2) (sz) (0) (0) [some (.ref a), some (.ref b), some (.int (nI i))] [] 18 := by
    refine dn (fun i hi ih => ?_)
    intro w2 hI2
    obtain ⟨c1, c2, c3, c4, c5⟩ := hI2
    refine v_iload_n dX3_copyFrom_18 rfl ?_
    refine v_aload_n dX3_copyFrom_19 rfl ?_
    refine v_get 1 dX3_copyFrom_20 FTX3 (by decide) rfl fl_X3_18 c1 rfl ?_
    refine v_icmp_geN (tgt := 47) dX3_copyFrom_23 (by decide) (by omega) (by omega) (fun b23 => ?_) (fun b23 => ?_)
    ·
      have e1 : i = m := by omega
      subst e1
      refine v_ret dX3_copyFrom_47 rfl (Nat.le_refl _) (Nat.le_refl _) ?_
      exact ⟨rfl, rfl, ⟨⟨F, c1, c2, r3⟩, hK2, hP, c3, c4⟩, c5⟩
    ·
      have hpi := hP.1 i (by omega)
      have hpi2 := hP2.1 i (by omega)
      obtain ⟨x1, x2, x3, x4, x5, f, z, ho⟩ := c3 (π i) hpi
      obtain ⟨Vb, hbr⟩ := hR2 i (by omega)
      refine v_aload_n dX3_copyFrom_26 rfl ?_
      refine v_get 0 dX3_copyFrom_27 FTX3 (by decide) rfl fl_X3_11 c1 rfl ?_
      refine v_iload_n dX3_copyFrom_30 rfl ?_
      refine v_aald _ (by decide) dX3_copyFrom_31 c2 rfl (by omega) (by decide) (r3 i (by omega)) ?_
      refine v_aload_n dX3_copyFrom_32 rfl ?_
      refine v_get 0 dX3_copyFrom_33 FTX3 (by decide) rfl fl_X3_11 ((c5 _ (by omega)).trans b1) rfl ?_
      refine v_iload_n dX3_copyFrom_36 rfl ?_
      refine v_aald _ (by decide) dX3_copyFrom_37 ((c5 _ (by omega)).trans b2) rfl (by omega) (by decide) (b3 i (by omega)) ?_
      refine v_wV1 oX2_copyFrom dX3_copyFrom_38 ml_X3_25 (c_rcopy ho (hbr.1.fr (fun q h1 h2 => c5 q (by omega))) (by omega)) ho.1 (by decide) (Nat.le_of_ble_eq_true rfl) (Nat.le_refl _) (Nat.le_refl _) (fun r' w3 hq => ?_)
      obtain ⟨rfl, q1, q2⟩ := hq
      refine v_iincN dX3_copyFrom_41 (by decide) rfl rfl rfl ?_
      refine v_goto (tgt := 18) dX3_copyFrom_44 (by decide) ?_
      exact ih (by omega) w3 ⟨(q2 _ (by omega)).trans c1, (q2 _ (by omega)).trans c2, fun j hj => by
        by_cases e : j = π i
        · rw [e]
          exact ⟨_, _, _, _, _, _, _, q1⟩
        · obtain ⟨x1, x2, x3, x4, x5, f, m, ho⟩ := c3 j hj
          exact ⟨x1, x2, x3, x4, x5, f, m, ho.fr (fun q h1 h2 => q2 q (by omega))⟩, fun j hj => by
        by_cases e : j = i
        · rw [e]
          exact ⟨Vb, q1, hbr.2⟩
        · have hne : π j ≠ π i := fun y => e (hP.2 j i (by omega) (by omega) y)
          obtain ⟨U, hU⟩ := c4 j (by omega)
          exact ⟨U, hU.fr (fun q h1 h2 => q2 q (by omega))⟩, c5.tr (q2.mono (by omega) (by omega))⟩
  exact LP18 0 (Nat.zero_le _) w1 ⟨g1, (g2 _ (by omega)).trans r2, fun j hj => by
    obtain ⟨x1, x2, x3, x4, x5, f, m, ho⟩ := hS j hj
    exact ⟨x1, x2, x3, x4, x5, f, m, ho.fr (fun q h1 h2 => g2 q (by omega))⟩, fun j hj => absurd hj (Nat.not_lt_zero _), fun q hq => g2 q (by omega)⟩
theorem hnX3 : ∀ j, j < 3 → defaultValue (tyX3 j) = vp_V [.null, .int 0, .int 0] j := by decide
set_option maxHeartbeats 2000000 in
set_option maxRecDepth 100000 in
theorem c_X3init {w : Wd} {a : Nat} (h0 : w a = some (ob 3 [.null, .int 0, .int 0])) : Ev mX3_init 3 [.ref a] w (a + 1) 65 1632 (fun r' w' zz => r' = none ∧ zz = a + 66 ∧ (∀ g : Nat → Int32, g 18 = 0 → (∀ k, k < 16 → ¬ 0 ≤ g (1808 + 65 * k)) → ∀ κ, RR w' a g 0 (fun i => i) κ) ∧ fr a 66 w w') := by
  refine Ev.ofV [some (.ref a), none] (by decide) (Nat.le_of_ble_eq_true rfl) rfl rfl rfl ?_
  refine v_aload_n dX3_init_0 rfl ?_
  refine v_objInit dX3_init_1 ml_X3_3 (by decide) (Nat.le_of_ble_eq_true rfl) ?_
  refine v_aload_n dX3_init_4 rfl ?_
  refine v_bipush (v := nI 16) dX3_init_5 (by decide) ?_
  refine v_anew (t := 3) (by decide) dX3_init_7 cl_X3_9 (by decide) (by omega) (by omega) ?_
  refine v_putF 0 dX3_init_10 FTX3 (by decide) rfl fl_X3_11 ((wu_ne _ _ (by omega)).trans h0) rfl rfl (Nat.le_of_ble_eq_true rfl) rfl rfl rfl ?_
  refine v_gen (fun w' => ((w' a = some (ob 3 [.ref (a + 1), .int 0, .int 0])) ∧ (∃ F, w' (a + 1) = some (ra 3 16 F) ∧ ∀ q, q < 0 → F q = some (a + 2 + 4 * q)) ∧ (∀ q, q < 0 → RO w' (a + 2 + 4 * q) 0 0 0 0 0 (fun _ => 0) 0) ∧ fr a 66 w w')) ⟨wu_eq _ _ _, ⟨fun _ => none, (wu_ne _ _ (by omega)).trans (wu_eq _ _ _), fun q hq => absurd hq (Nat.not_lt_zero _)⟩, fun q hq => absurd hq (Nat.not_lt_zero _), ((fr.rf a 66 w).wu _ (by omega) (by omega)).wu _ (by omega) (by omega)⟩ (fun w1 hw1 => ?_)
  refine v_iconst (v := nI 0) dX3_init_13 (by decide) ?_
  refine v_istore_n dX3_init_14 (by decide) rfl ?_
  have LP15 : ∀ i, i ≤ 16 → ∀ w2 : Wd, ((w2 a = some (ob 3 [.ref (a + 1), .int 0, .int 0])) ∧ (∃ F, w2 (a + 1) = some (ra 3 16 F) ∧ ∀ q, q < i → F q = some (a + 2 + 4 * q)) ∧ (∀ q, q < i → RO w2 (a + 2 + 4 * q) 0 0 0 0 0 (fun _ => 0) 0) ∧ fr a 66 w w2) → V mX3_init 3 65 1632 (fun r' w' zz => r' = none ∧ zz = a + 66 ∧ (∀ g : Nat → Int32, g 18 = 0 → (∀ k, k < 16 → ¬ 0 ≤ g (1808 + 65 * k)) → ∀ κ, RR w' a g 0 (fun i => i) κ) ∧ fr a 66 w w') (w2) (a + 2 + 4 * i) (1 + 4 * i) (16 + 101 * i) [some (.ref a), some (.int (nI i))] [] 15 := by
    refine dn (fun i hi ih => ?_)
    intro w2 hI2
    obtain ⟨c1, ⟨F, c2, c3⟩, c4, c5⟩ := hI2
    refine v_iload_n dX3_init_15 rfl ?_
    refine v_aload_n dX3_init_16 rfl ?_
    refine v_get 0 dX3_init_17 FTX3 (by decide) rfl fl_X3_11 c1 rfl ?_
    refine v_alenR (by decide) dX3_init_20 c2 ?_
    refine v_icmp_geN (tgt := 43) dX3_init_21 (by decide) (by omega) (by omega) (fun b21 => ?_) (fun b21 => ?_)
    ·
      have e1 : i = 16 := by omega
      subst e1
      refine v_ret dX3_init_43 rfl (by omega) (by omega) ?_
      exact ⟨rfl, by omega, fun g h18 hg κ => ⟨⟨F, by rw [h18]; exact c1, c2, c3⟩, ⟨by omega, fun i hi => absurd hi (Nat.not_lt_zero _), fun i j _ hj => absurd hj (Nat.not_lt_zero _), fun k hk h0 => absurd h0 (hg k hk)⟩, ⟨fun i hi => hi, fun i j _ _ e => e⟩, fun j hj => ⟨_, _, _, _, _, _, _, c4 j hj⟩, fun i hi => absurd hi (Nat.not_lt_zero _)⟩, c5⟩
    ·
      refine v_aload_n dX3_init_24 rfl ?_
      refine v_get 0 dX3_init_25 FTX3 (by decide) rfl fl_X3_11 c1 rfl ?_
      refine v_iload_n dX3_init_28 rfl ?_
      refine v_new (fs := [.null, .int 0, .int 0, .int 0, .int 0, .int 0]) dX3_init_29 FTX2 cl_X3_9 insX2 iniX2 hnX2 (by omega) (by omega) ?_
      refine v_dup dX3_init_32 rfl ?_
      refine v_callIN (As := []) oX2_init dX3_init_33 (by decide) (c_X2init rfl (wu_eq _ _ _)) rfl (by decide) (Nat.le_of_ble_eq_true rfl) (by omega) (by omega) (fun r' w3 zz1 hq => ?_)
      obtain ⟨rfl, rfl, q1, q2⟩ := hq
      refine v_aast _ (by decide) dX3_init_36 ((q2 _ (by omega)).trans ((wu_ne _ _ (by omega)).trans c2)) ((q1 (fun _ => 0)).1) rfl (by omega) (by decide) ?_
      refine v_iincN dX3_init_37 (by decide) rfl rfl rfl ?_
      refine v_goto (tgt := 15) dX3_init_40 (by decide) ?_
      refine v_eqc (show 1 + 4 * (i + 1) = _ by omega) (show 16 + 101 * (i + 1) = _ by omega) ?_
      refine v_eqz (show a + 2 + 4 * (i + 1) = _ by omega) ?_
      exact ih (by omega) _ ⟨(wu_ne _ _ (by omega)).trans ((q2 _ (by omega)).trans ((wu_ne _ _ (by omega)).trans c1)), ⟨_, wu_eq _ _ _, fun q hq => by
        show (if q = i then some (a + 2 + 4 * i) else F q) = _
        by_cases e : q = i
        · rw [if_pos e, e]
        · rw [if_neg e]
          exact c3 q (by omega)⟩, fun q hq => by
        by_cases e : q = i
        · rw [e]
          exact (q1 (fun _ => 0)).fr (fun z h1 h2 => wu_ne _ _ (by omega))
        · exact (c4 q (by omega)).fr (fun z h1 h2 => by rw [wu_ne _ _ (by omega), q2 _ (by omega), wu_ne _ _ (by omega)]), fun q hq => by rw [wu_ne _ _ (by omega), q2 _ (by omega), wu_ne _ _ (by omega)]; exact c5 q hq⟩
  exact LP15 0 (Nat.zero_le _) w1 hw1
