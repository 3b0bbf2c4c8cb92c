set_option maxHeartbeats 2000000 in
set_option maxRecDepth 100000 in
theorem c_bestFor {w : Wd} {a n : Nat} {g : Nat → Int32} {π κ : Nat → Nat} (h : RR w a g n π κ) (hW : WS g) (hI : VI g) (p nd lim : Nat) (hp : p < 24) (hnd : nd < 100) (hlim : lim < 100) : Rd mX3_bestFor 3 [.ref a, .int (nI p), .int (nI nd), .int (nI lim)] w (some (rvO a π (clB g κ p nd lim n))) := by
  intro sz
  refine Ev.ofV [some (.ref a), some (.int (nI p)), some (.int (nI nd)), some (.int (nI lim)), none, none, none, none] (by decide) (Nat.le_of_ble_eq_true rfl) rfl rfl rfl ?_
  have h0 := h
  obtain ⟨⟨F, r1, r2, r3⟩, hK, hP, hS, hR⟩ := h0
  have hn := hK.1
  refine v_null dX3_bestFor_0 ?_
  refine v_astoreN dX3_bestFor_1 (by decide) rfl ?_
  refine v_iconst (v := nI 0) dX3_bestFor_3 (by decide) ?_
  refine v_istore dX3_bestFor_4 (by decide) rfl ?_
  have LP6 : ∀ i, i ≤ n → V mX3_bestFor 3 0 0 (fun r' w' zz => r' = some (rvO a π (clB g κ p nd lim n)) ∧ w' = w ∧ zz = sz) (w) (sz) (0) (0) [some (.ref a), some (.int (nI p)), some (.int (nI nd)), some (.int (nI lim)), some (rvO a π (clB g κ p nd lim i)), some (.int (nI i)), none, none] [] 6 := by
    refine dn (fun i hi ih => ?_)
    refine v_iload dX3_bestFor_6 rfl ?_
    refine v_aload_n dX3_bestFor_8 rfl ?_
    refine v_get 1 dX3_bestFor_9 FTX3 (by decide) rfl fl_X3_18 r1 rfl ?_
    refine v_icmp_geN (tgt := 91) dX3_bestFor_12 (by decide) (by omega) (by omega) (fun b12 => ?_) (fun b12 => ?_)
    ·
      have e1 : i = n := by omega
      subst e1
      cases hc : clB g κ p nd lim i with
      | none =>
        refine v_aloadN dX3_bestFor_91 rfl ?_
        refine v_aret dX3_bestFor_93 rfl (Or.inl rfl) (Nat.le_refl _) (Nat.le_refl _) ?_
        exact ⟨rfl, rfl, rfl⟩
      | some j =>
        refine v_aload dX3_bestFor_91 rfl ?_
        refine v_aret dX3_bestFor_93 rfl (Or.inr ⟨_, rfl⟩) (Nat.le_refl _) (Nat.le_refl _) ?_
        exact ⟨rfl, rfl, rfl⟩
    ·
      obtain ⟨Vt, hr, hV, hb⟩ := hR i (by omega)
      have hki := hK.2.1 i (by omega)
      have hv := RwR.vf (w := w) (a := a + 2 + 4 * π i) (V := Vt) ⟨hr, hV, hb⟩ hW hI hK.di hki.1 hki.2
      have hp10 := pcn_le Vt
      have hsz := hr.2.sz
      refine v_aload_n dX3_bestFor_15 rfl ?_
      refine v_get 0 dX3_bestFor_16 FTX3 (by decide) rfl fl_X3_11 r1 rfl ?_
      refine v_iload dX3_bestFor_19 rfl ?_
      refine v_aald _ (by decide) dX3_bestFor_21 r2 rfl (by omega) (by decide) (r3 i (by omega)) ?_
      refine v_astore dX3_bestFor_22 (by decide) rfl ?_
      have J59 : ∀ c : Bool, c = okB g p nd lim (κ i) → V mX3_bestFor 3 0 0 (fun r' w' zz => r' = some (rvO a π (clB g κ p nd lim n)) ∧ w' = w ∧ zz = sz) (w) (sz) (0) (0) [some (.ref a), some (.int (nI p)), some (.int (nI nd)), some (.int (nI lim)), some (rvO a π (clB g κ p nd lim i)), some (.int (nI i)), some (.ref (a + 2 + 4 * π i)), none] [.int (b2i c)] 59 := by
        intro c hc7
        refine v_istore dX3_bestFor_59 (by decide) rfl ?_
        refine v_iload dX3_bestFor_61 rfl ?_
        refine v_if_eqB (tgt := 85) dX3_bestFor_63 (by decide) (fun b63 => ?_) (fun b63 => ?_)
        ·
          refine v_iincN dX3_bestFor_85 (by decide) rfl rfl rfl ?_
          refine v_goto (tgt := 6) dX3_bestFor_88 (by decide) ?_
          refine v_drop 6 ?_
          refine v_drop 7 ?_
          refine v_eqL (show _ = _ from ?_) (ih (by omega))
          rw [clB_F (hc7.symm.trans b63)]
          rfl
        ·
          have hok : okB g p nd lim (κ i) = true := hc7.symm.trans b63
          cases hc : clB g κ p nd lim i with
          | none =>
            refine v_aloadN dX3_bestFor_66 rfl ?_
            refine v_ifnullN (tgt := 81) dX3_bestFor_68 (by decide) ?_
            refine v_aload dX3_bestFor_81 rfl ?_
            refine v_astore dX3_bestFor_83 (by decide) rfl ?_
            refine v_iincN dX3_bestFor_85 (by decide) rfl rfl rfl ?_
            refine v_goto (tgt := 6) dX3_bestFor_88 (by decide) ?_
            refine v_drop 6 ?_
            refine v_drop 7 ?_
            refine v_eqL (show _ = _ from ?_) (ih (by omega))
            rw [clB_N hok hc]
            rfl
          | some j =>
            have hj := clB_lt hK (by omega) hc
            obtain ⟨Vj, hrj, hVj, hbj⟩ := hR j (by omega)
            have hkj := hK.2.1 j (by omega)
            have hvj := RwR.vf (w := w) (a := a + 2 + 4 * π j) (V := Vj) ⟨hrj, hVj, hbj⟩ hW hI hK.di hkj.1 hkj.2
            have hfw : fw g (κ i) (κ j) = (decide (pcn Vj < pcn Vt) || (decide (pcn Vt = pcn Vj) && decide (nw (sft g (1808 + 65 * κ i + 5)) (nt (g (1808 + 65 * κ i + 4))) < nw (sft g (1808 + 65 * κ j + 5)) (nt (g (1808 + 65 * κ j + 4)))))) := by
              unfold fw
              rw [← hv, ← hvj]
              rfl
            refine v_aload dX3_bestFor_66 rfl ?_
            refine v_ifnull dX3_bestFor_68 ?_
            refine v_aload dX3_bestFor_71 rfl ?_
            refine v_aload dX3_bestFor_73 rfl ?_
            refine u_rV1 oX2_hasMoreVotesOrFewerWords dX3_bestFor_75 ml_X3_64 (c_fewer hr hV hrj hVj) hr.1 (by decide) (Nat.le_of_ble_eq_true rfl) (Nat.le_refl _) (Nat.le_refl _) ?_
            refine v_if_eqB (tgt := 85) dX3_bestFor_78 (by decide) (fun b78 => ?_) (fun b78 => ?_)
            ·
              refine v_iincN dX3_bestFor_85 (by decide) rfl rfl rfl ?_
              refine v_goto (tgt := 6) dX3_bestFor_88 (by decide) ?_
              refine v_drop 6 ?_
              refine v_drop 7 ?_
              refine v_eqL (show _ = _ from ?_) (ih (by omega))
              rw [clB_K hc (hfw.trans b78), hc]
              rfl
            ·
              refine v_aload dX3_bestFor_81 rfl ?_
              refine v_astore dX3_bestFor_83 (by decide) rfl ?_
              refine v_iincN dX3_bestFor_85 (by decide) rfl rfl rfl ?_
              refine v_goto (tgt := 6) dX3_bestFor_88 (by decide) ?_
              refine v_drop 6 ?_
              refine v_drop 7 ?_
              refine v_eqL (show _ = _ from ?_) (ih (by omega))
              rw [clB_T hok hc (hfw.trans b78)]
              rfl
      refine v_aload dX3_bestFor_24 rfl ?_
      refine v_get 2 dX3_bestFor_26 FTX2 (by decide) rfl fl_X3_47 hr.1 rfl ?_
      refine v_iload_n dX3_bestFor_29 rfl ?_
      refine v_icmp_ne (tgt := 58) dX3_bestFor_30 (by decide) (fun b30 => ?_) (fun b30 => ?_)
      ·
        refine v_iconst (v := nI 0) dX3_bestFor_58 (by decide) ?_
        exact J59 false (by unfold okB cand; have : (g (1808 + 65 * κ i + 1) == nI p) = false := (by simpa using b30); rw [this]; simp)
      ·
        refine v_aload dX3_bestFor_33 rfl ?_
        refine u_rV0 oX2_votes dX3_bestFor_35 ml_X3_53 (c_votes hr hV) hr.1 (by decide) (Nat.le_of_ble_eq_true rfl) (Nat.le_refl _) (Nat.le_refl _) ?_
        refine v_iload_n dX3_bestFor_38 rfl ?_
        refine v_icmp_ltN (tgt := 58) dX3_bestFor_39 (by decide) (by omega) (by omega) (fun b39 => ?_) (fun b39 => ?_)
        ·
          refine v_iconst (v := nI 0) dX3_bestFor_58 (by decide) ?_
          exact J59 false (by unfold okB; rw [← hv, decide_eq_false (show ¬ nd ≤ pcn Vt by omega)]; simp)
        ·
          refine v_aload dX3_bestFor_42 rfl ?_
          refine v_get 0 dX3_bestFor_44 FTX2 (by decide) rfl fl_X3_57 hr.1 rfl ?_
          refine v_get 3 dX3_bestFor_47 FTX6 (by decide) rfl fl_X3_61 hr.2.at rfl ?_
          refine v_iload_n dX3_bestFor_50 rfl ?_
          refine v_icmp_gtN (tgt := 58) dX3_bestFor_51 (by decide) (by omega) (by omega) (fun b51 => ?_) (fun b51 => ?_)
          ·
            refine v_iconst (v := nI 0) dX3_bestFor_58 (by decide) ?_
            exact J59 false (by unfold okB nwr; rw [decide_eq_false (show ¬ nw (sft g (1808 + 65 * κ i + 5)) (nt (g (1808 + 65 * κ i + 4))) ≤ lim by omega)]; simp)
          ·
            refine v_iconst (v := nI 1) dX3_bestFor_54 (by decide) ?_
            refine v_goto (tgt := 59) dX3_bestFor_55 (by decide) ?_
            exact J59 true (by unfold okB cand nwr; rw [← hv, decide_eq_true (show nd ≤ pcn Vt by omega), decide_eq_true (show nw (sft g (1808 + 65 * κ i + 5)) (nt (g (1808 + 65 * κ i + 4))) ≤ lim by omega), decide_eq_true hki.2, b30]; simp)
  exact LP6 0 (Nat.zero_le _)
set_option maxHeartbeats 2000000 in
set_option maxRecDepth 100000 in
theorem c_removeAt {w : Wd} {a n : Nat} {g : Nat → Int32} {π κ : Nat → Nat} (h : RR w a g n π κ) (hpl : ∀ i, i < n → nt (g (1808 + 65 * κ i + 1)) < 24) (j : Nat) (hj : j < n) : Wr mX3_removeAt 0 [.ref a, .int (nI j)] w (fun r' w' => r' = none ∧ RR w' a (gone g (κ j)) (n - 1) (cutP π n j) (cutK κ j) ∧ fr a 66 w w') := by
  intro sz
  refine Ev.ofV [some (.ref a), some (.int (nI j)), none, none] (by decide) (Nat.le_of_ble_eq_true rfl) rfl rfl rfl ?_
  have h0 := h
  obtain ⟨⟨F, r1, r2, r3⟩, hK, hP, hS, hR⟩ := h0
  have hn := hK.1
  refine v_aload_n dX3_removeAt_0 rfl ?_
  refine v_get 0 dX3_removeAt_1 FTX3 (by decide) rfl fl_X3_11 r1 rfl ?_
  refine v_iload_n dX3_removeAt_4 rfl ?_
  refine v_aald _ (by decide) dX3_removeAt_5 r2 rfl (by omega) (by decide) (r3 j (by omega)) ?_
  refine v_astore_n dX3_removeAt_6 (by decide) rfl ?_
  refine v_iload_n dX3_removeAt_7 rfl ?_
  refine v_iconst (v := nI 1) dX3_removeAt_8 (by decide) ?_
  refine v_iaddN dX3_removeAt_9 ?_
  refine v_istore_n dX3_removeAt_10 (by decide) rfl ?_
  have LP11 : ∀ t, t ≤ n - 1 - j → V mX3_removeAt 0 0 0 (fun r' w' zz => zz = sz ∧ (r' = none ∧ RR w' a (gone g (κ j)) (n - 1) (cutP π n j) (cutK κ j) ∧ fr a 66 w w')) (wu w (a + 1) (ra 3 16 (shF F j (t)))) (sz) (0) (0) [some (.ref a), some (.int (nI j)), some (.ref (a + 2 + 4 * π j)), some (.int (nI (j + 1 + t)))] [] 11 := by
    refine dn (fun t ht ih => ?_)
    refine v_iload_n dX3_removeAt_11 rfl ?_
    refine v_aload_n dX3_removeAt_12 rfl ?_
    refine v_get 1 dX3_removeAt_13 FTX3 (by decide) rfl fl_X3_18 ((wu_ne _ _ (by omega)).trans r1) rfl ?_
    refine v_icmp_geN (tgt := 39) dX3_removeAt_16 (by decide) (by omega) (by omega) (fun b16 => ?_) (fun b16 => ?_)
    ·
      have e1 : t = n - 1 - j := by omega
      subst e1
      refine v_aload_n dX3_removeAt_39 rfl ?_
      refine v_dup dX3_removeAt_40 rfl ?_
      refine v_get 1 dX3_removeAt_41 FTX3 (by decide) rfl fl_X3_18 ((wu_ne _ _ (by omega)).trans r1) rfl ?_
      refine v_iconst (v := nI 1) dX3_removeAt_44 (by decide) ?_
      refine v_isubN dX3_removeAt_45 (by omega) ?_
      refine v_put 1 dX3_removeAt_46 FTX3 (by decide) rfl fl_X3_18 ((wu_ne _ _ (by omega)).trans r1) rfl rfl (Nat.le_of_ble_eq_true rfl) rfl ?_
      have hpj := hP.1 j (by omega)
      obtain ⟨y1, y2, y3, y4, y5, f, m, ho⟩ := hS (π j) hpj
      refine v_aload_n dX3_removeAt_49 rfl ?_
      refine v_get 0 dX3_removeAt_50 FTX3 (by decide) rfl fl_X3_11 (wu_eq _ _ _) rfl ?_
      refine v_aload_n dX3_removeAt_53 rfl ?_
      refine v_get 1 dX3_removeAt_54 FTX3 (by decide) rfl fl_X3_18 (wu_eq _ _ _) rfl ?_
      refine v_aload_n dX3_removeAt_57 rfl ?_
      refine v_aast _ (by decide) dX3_removeAt_58 ((wu_ne _ _ (by omega)).trans (wu_eq _ _ _)) ((wu_ne _ _ (by omega)).trans ((wu_ne _ _ (by omega)).trans ho.1)) rfl (by omega) (by decide) ?_
      refine v_ret dX3_removeAt_59 rfl (Nat.le_refl _) (Nat.le_refl _) ?_
      refine ⟨rfl, rfl, RR_gone h hpl hj ((wu_ne _ _ (by omega)).trans (wu_eq _ _ _)) (wu_eq _ _ _) (fun i hi => ?_) (fun q h1 h2 => by rw [wu_ne _ _ h2, wu_ne _ _ h1, wu_ne _ _ h2]), fun q hq => by rw [wu_ne _ _ (by omega), wu_ne _ _ (by omega), wu_ne _ _ (by omega)]⟩
      show (if i = n - 1 then some (a + 2 + 4 * π j) else shF F j (n - 1 - j) i) = _
      unfold cutP shF
      by_cases c : i = n - 1
      · rw [if_pos c, if_neg (by omega), if_neg (by omega), if_pos c]
      · rw [if_neg c]
        by_cases d : i < j
        · rw [if_neg (by omega), if_pos d]
          exact r3 i hi
        · by_cases e : i < n - 1
          · rw [if_pos (by omega), if_neg d, if_pos e]
            exact r3 (i + 1) (by omega)
          · rw [if_neg (by omega), if_neg d, if_neg e, if_neg c]
            exact r3 i hi
    ·
      refine v_aload_n dX3_removeAt_19 rfl ?_
      refine v_get 0 dX3_removeAt_20 FTX3 (by decide) rfl fl_X3_11 ((wu_ne _ _ (by omega)).trans r1) rfl ?_
      refine v_iload_n dX3_removeAt_23 rfl ?_
      refine v_iconst (v := nI 1) dX3_removeAt_24 (by decide) ?_
      refine v_isubN dX3_removeAt_25 (by omega) ?_
      refine v_aload_n dX3_removeAt_26 rfl ?_
      refine v_get 0 dX3_removeAt_27 FTX3 (by decide) rfl fl_X3_11 ((wu_ne _ _ (by omega)).trans r1) rfl ?_
      refine v_iload_n dX3_removeAt_30 rfl ?_
      refine v_aald _ (by decide) dX3_removeAt_31 (wu_eq _ _ _) rfl (by omega) (by decide) ((shF_out (by omega)).trans (r3 (j + 1 + t) (by omega))) ?_
      have hpi := hP.1 (j + 1 + t) (by omega)
      obtain ⟨x1, x2, x3, x4, x5, f, m, ho⟩ := hS (π (j + 1 + t)) hpi
      refine v_aast _ (by decide) dX3_removeAt_32 (wu_eq _ _ _) ((wu_ne _ _ (by omega)).trans ho.1) rfl (by omega) (by decide) ?_
      refine v_eqw (show wu w (a + 1) (ra 3 16 (shF F j (t + 1))) = _ by rw [wu_wu, shF_S (r3 (j + 1 + t) (by omega))]) ?_
      refine v_iincN dX3_removeAt_33 (by decide) rfl rfl rfl ?_
      refine v_goto (tgt := 11) dX3_removeAt_36 (by decide) ?_
      exact ih (by omega)
  refine v_eqw (show wu w (a + 1) (ra 3 16 (shF F j 0)) = w by rw [shF_0]; exact wu_self r2) ?_
  exact LP11 0 (Nat.zero_le _)
set_option maxHeartbeats 2000000 in
set_option maxRecDepth 100000 in
theorem c_remove {w : Wd} {a n : Nat} {g : Nat → Int32} {π κ : Nat → Nat} (h : RR w a g n π κ) (hpl : ∀ i, i < n → nt (g (1808 + 65 * κ i + 1)) < 24) (j x : Nat) (hj : j < n) (hx : x = a + 2 + 4 * π j) : Wr mX3_remove 1 [.ref a, .ref x] w (fun r' w' => r' = none ∧ RR w' a (gone g (κ j)) (n - 1) (cutP π n j) (cutK κ j) ∧ fr a 66 w w') := by
  intro sz
  refine Ev.ofV [some (.ref a), some (.ref x), none] (by decide) (Nat.le_of_ble_eq_true rfl) rfl rfl rfl ?_
  have h0 := h
  obtain ⟨⟨F, r1, r2, r3⟩, hK, hP, hS, hR⟩ := h0
  have hn := hK.1
  refine v_iconst (v := nI 0) dX3_remove_0 (by decide) ?_
  refine v_istore_n dX3_remove_1 (by decide) rfl ?_
  have LP2 : ∀ i, i ≤ j → V mX3_remove 1 0 0 (fun r' w' zz => zz = sz ∧ (r' = none ∧ RR w' a (gone g (κ j)) (n - 1) (cutP π n j) (cutK κ j) ∧ fr a 66 w w')) (w) (sz) (0) (0) [some (.ref a), some (.ref x), some (.int (nI i))] [] 2 := by
    refine dn (fun i hi ih => ?_)
    refine v_iload_n dX3_remove_2 rfl ?_
    refine v_aload_n dX3_remove_3 rfl ?_
    refine v_get 1 dX3_remove_4 FTX3 (by decide) rfl fl_X3_18 r1 rfl ?_
    refine v_icmp_geN (tgt := 32) dX3_remove_7 (by decide) (by omega) (by omega) (fun b7 => ?_) (fun b7 => ?_)
    ·
      exact absurd b7 (by omega)
    ·
      refine v_aload_n dX3_remove_10 rfl ?_
      refine v_get 0 dX3_remove_11 FTX3 (by decide) rfl fl_X3_11 r1 rfl ?_
      refine v_iload_n dX3_remove_14 rfl ?_
      refine v_aald _ (by decide) dX3_remove_15 r2 rfl (by omega) (by decide) (r3 i (by omega)) ?_
      refine v_aload_n dX3_remove_16 rfl ?_
      refine v_acmp_ne (rx := some (a + 2 + 4 * π i)) (ry := some x) (tgt := 26) dX3_remove_17 (by decide) (fun b17 => ?_) (fun b17 => ?_)
      ·
        refine v_iincN dX3_remove_26 (by decide) rfl rfl rfl ?_
        refine v_goto (tgt := 2) dX3_remove_29 (by decide) ?_
        exact ih (by
          by_cases e : i = j
          · exact absurd (by rw [e, hx]) b17
          · omega)
      ·
        have e1 : j = i := hP.2 j i (by omega) (by omega) (by have := Option.some.inj b17; omega)
        rw [e1] at hj ⊢
        refine v_aload_n dX3_remove_20 rfl ?_
        refine v_iload_n dX3_remove_21 rfl ?_
        refine v_wV1 oX3_removeAt dX3_remove_22 ml_X3_36 (c_removeAt h hpl i hj) r1 (by decide) (Nat.le_of_ble_eq_true rfl) (Nat.le_refl _) (Nat.le_refl _) (fun r' w1 hq => ?_)
        obtain ⟨rfl, q1, q2⟩ := hq
        refine v_ret dX3_remove_25 rfl (Nat.le_refl _) (Nat.le_refl _) ?_
        exact ⟨rfl, rfl, q1, q2⟩
  exact LP2 0 (Nat.zero_le _)
/-- one vote cell is written: what a row of another place, or of this one, makes of it -/
theorem RwR.vote {w : Wd} {b k V v p : Nat} {x : Int32} {g : Nat → Int32} (h : RwR w b g k V) (hv : v < 10) (hp : p < 24) (hpl : nt (g (1808 + 65 * k + 1)) < 24) (hd : nt (g (1808 + 65 * k + 1)) = p → (x == g (1808 + 65 * k)) = (g (32 + 24 * v + p) == g (1808 + 65 * k))) : RwR w b (upd g (32 + 24 * v + p) x) k V := by
  refine h.congr (fun q h1 h2 => up_ne _ _ (by omega)) (fun z hz => ?_)
  by_cases e : 32 + 24 * z + nt (g (1808 + 65 * k + 1)) = 32 + 24 * v + p
  · rw [e, up_eq]
    exact hd (by omega)
  · rw [up_ne _ _ e]
set_option maxHeartbeats 2000000 in
set_option maxRecDepth 100000 in
theorem c_takeVoteBack {w : Wd} {a n : Nat} {g : Nat → Int32} {π κ : Nat → Nat} (h : RR w a g n π κ) (hpl : ∀ i, i < n → nt (g (1808 + 65 * κ i + 1)) < 24) (hp2 : ∀ i, i < n → g (1808 + 65 * κ i + 1) = nI (nt (g (1808 + 65 * κ i + 1)))) (v p : Nat) (hv : v < 10) (hp : p < 24) : Wr mX3_takeVoteBack 0 [.ref a, .int (nI v), .int (nI p)] w (fun r' w' => r' = none ∧ RR w' a (upd g (32 + 24 * v + p) (-1)) n π κ ∧ fr a 66 w w') := by
  intro sz
  refine Ev.ofV [some (.ref a), some (.int (nI v)), some (.int (nI p)), none] (by decide) (Nat.le_of_ble_eq_true rfl) rfl rfl rfl ?_
  have h0 := h
  obtain ⟨⟨F, r1, r2, r3⟩, hK, hP, hS, hR⟩ := h0
  have hn := hK.1
  refine v_iconst (v := nI 0) dX3_takeVoteBack_0 (by decide) ?_
  refine v_istore_n dX3_takeVoteBack_1 (by decide) rfl ?_
  have LP2 : ∀ i, i ≤ n → ∀ w2 : Wd, (w2 a = some (ob 3 [.ref (a + 1), .int (nI n), .int (g 18)]) ∧ w2 (a + 1) = some (ra 3 16 F) ∧ (∀ j, j < 16 → ∃ x1 x2 x3 x4 x5 f m, RO w2 (a + 2 + 4 * j) x1 x2 x3 x4 x5 f m) ∧ (∀ j, j < n → ∃ U, RwR w2 (a + 2 + 4 * π j) (if j < i then (upd g (32 + 24 * v + p) (-1)) else g) (κ j) U) ∧ fr a 66 w w2) → V mX3_takeVoteBack 0 0 0 (fun r' w' zz => zz = sz ∧ (r' = none ∧ RR w' a (upd g (32 + 24 * v + p) (-1)) n π κ ∧ fr a 66 w w')) (w2) (sz) (0) (0) [some (.ref a), some (.int (nI v)), some (.int (nI p)), some (.int (nI i))] [] 2 := by
    refine dn (fun i hi ih => ?_)
    intro w2 hI2
    obtain ⟨c1, c2, c3, c4, c5⟩ := hI2
    refine v_iload_n dX3_takeVoteBack_2 rfl ?_
    refine v_aload_n dX3_takeVoteBack_3 rfl ?_
    refine v_get 1 dX3_takeVoteBack_4 FTX3 (by decide) rfl fl_X3_18 c1 rfl ?_
    refine v_icmp_geN (tgt := 48) dX3_takeVoteBack_7 (by decide) (by omega) (by omega) (fun b7 => ?_) (fun b7 => ?_)
    ·
      refine v_ret dX3_takeVoteBack_48 rfl (Nat.le_refl _) (Nat.le_refl _) ?_
      exact ⟨rfl, rfl, ⟨⟨F, by rw [up_ne _ _ (by omega)]; exact c1, c2, r3⟩, hK.congr (fun k hk => up_ne _ _ (by omega)), hP, c3, fun j hj => by
        have := c4 j hj
        rw [if_pos (by omega)] at this
        exact this⟩, c5⟩
    ·
      obtain ⟨Vt, hr⟩ := c4 i (by omega)
      rw [if_neg (Nat.lt_irrefl _)] at hr
      have hpli := hpl i (by omega)
      have hki := hK.2.1 i (by omega)
      have hpi := hP.1 i (by omega)
      refine v_aload_n dX3_takeVoteBack_10 rfl ?_
      refine v_get 0 dX3_takeVoteBack_11 FTX3 (by decide) rfl fl_X3_11 c1 rfl ?_
      refine v_iload_n dX3_takeVoteBack_14 rfl ?_
      refine v_aald _ (by decide) dX3_takeVoteBack_15 c2 rfl (by omega) (by decide) (r3 i (by omega)) ?_
      refine v_get 2 dX3_takeVoteBack_16 FTX2 (by decide) rfl fl_X3_47 hr.1.1 rfl ?_
      refine v_iload_n dX3_takeVoteBack_19 rfl ?_
      refine v_icmp_ne (tgt := 42) dX3_takeVoteBack_20 (by decide) (fun b20 => ?_) (fun b20 => ?_)
      ·
        refine v_iincN dX3_takeVoteBack_42 (by decide) rfl rfl rfl ?_
        refine v_goto (tgt := 2) dX3_takeVoteBack_45 (by decide) ?_
        exact ih (by omega) w2 ⟨c1, c2, c3, fun j hj => by
          by_cases e : j = i
          · subst e
            rw [if_pos (Nat.lt_succ_self _)]
            exact ⟨Vt, hr.vote hv hp hpli (fun z => absurd (by rw [hp2 j hj, z]) b20)⟩
          · have := c4 j hj
            by_cases d : j < i
            · rw [if_pos d] at this; rw [if_pos (by omega)]; exact this
            · rw [if_neg d] at this; rw [if_neg (by omega)]; exact this, c5⟩
      ·
        refine v_aload_n dX3_takeVoteBack_23 rfl ?_
        refine v_get 0 dX3_takeVoteBack_24 FTX3 (by decide) rfl fl_X3_11 c1 rfl ?_
        refine v_iload_n dX3_takeVoteBack_27 rfl ?_
        refine v_aald _ (by decide) dX3_takeVoteBack_28 c2 rfl (by omega) (by decide) (r3 i (by omega)) ?_
        refine v_dup dX3_takeVoteBack_29 rfl ?_
        refine v_get 5 dX3_takeVoteBack_30 FTX2 (by decide) rfl fl_X3_50 hr.1.1 rfl ?_
        refine v_iconst (v := nI 1) dX3_takeVoteBack_33 (by decide) ?_
        refine v_iload_n dX3_takeVoteBack_34 rfl ?_
        refine v_ishl dX3_takeVoteBack_35 ?_
        refine v_iconst (v := -1) dX3_takeVoteBack_36 (by decide) ?_
        refine v_ixor dX3_takeVoteBack_37 ?_
        refine v_iand dX3_takeVoteBack_38 ?_
        obtain ⟨u, hu1, hu2, hu3⟩ := clr_ok hr.2.1 hv
        refine v_eqs (show [Value.int (nI u), .ref (a + 2 + 4 * π i)] = _ by rw [← hu2]) ?_
        refine v_put 5 dX3_takeVoteBack_39 FTX2 (by decide) rfl fl_X3_50 hr.1.1 rfl rfl (Nat.le_of_ble_eq_true rfl) rfl ?_
        refine v_iincN dX3_takeVoteBack_42 (by decide) rfl rfl rfl ?_
        refine v_goto (tgt := 2) dX3_takeVoteBack_45 (by decide) ?_
        have hpi2 : nt (g (1808 + 65 * κ i + 1)) = p := by rw [b20, nt_nI (by omega)]
        have hrow : RwR (wu w2 (a + 2 + 4 * π i) (ob 2 [.ref (a + 2 + 4 * π i + 1), .int (g (1808 + 65 * κ i)), .int (g (1808 + 65 * κ i + 1)), .int (g (1808 + 65 * κ i + 2)), .int (g (1808 + 65 * κ i + 3)), .int (nI u)])) (a + 2 + 4 * π i) (upd g (32 + 24 * v + p) (-1)) (κ i) u := by
          have ha : ∀ q, q ≠ 32 + 24 * v + p → (upd g (32 + 24 * v + p) (-1)) q = g q := fun q hq => up_ne _ _ hq
          unfold RwR
          rw [ha _ (by omega), ha _ (by omega), ha _ (by omega), ha _ (by omega), ha _ (by omega)]
          have hsz := hr.1.2.sz.2
          refine ⟨⟨wu_eq _ _ _, (hr.1.2.fr (fun q h1 h2 => wu_ne _ _ (by omega))).congr (fun z hz => ha _ (by omega))⟩, hu1, fun z hz => ?_⟩
          rw [hu3 z hz, hr.2.2 z hz]
          by_cases e : z = v
          · subst e
            rw [hpi2, up_eq]
            have a1 : ((-1 : Int32) == g (1808 + 65 * κ i)) = false := by
              have := i_m1 hki.2
              simpa using fun y : (-1 : Int32) = g (1808 + 65 * κ i) => this y.symm
            rw [a1]
            simp
          · rw [ha _ (by omega)]
            have : (z == v) = false := by simpa using e
            rw [this]
            simp
        refine ih (by omega) _ ⟨(wu_ne _ _ (by omega)).trans c1, (wu_ne _ _ (by omega)).trans c2, fun j hj => ?_, fun j hj => ?_, c5.wu _ (by omega) (by omega)⟩
        · by_cases e : j = π i
          · rw [e]
            exact ⟨_, _, _, _, _, _, _, hrow.1⟩
          · obtain ⟨x1, x2, x3, x4, x5, f, m, ho⟩ := c3 j hj
            exact ⟨x1, x2, x3, x4, x5, f, m, ho.fr (fun q h1 h2 => wu_ne _ _ (by omega))⟩
        · by_cases e : j = i
          · subst e
            rw [if_pos (Nat.lt_succ_self _)]
            exact ⟨u, hrow⟩
          · have hne : π j ≠ π i := fun y => e (hP.2 j i (by omega) (by omega) y)
            obtain ⟨U, hU⟩ := c4 j hj
            by_cases d : j < i
            · rw [if_pos d] at hU
              rw [if_pos (by omega)]
              exact ⟨U, hU.fr (fun q h1 h2 => wu_ne _ _ (by omega))⟩
            · rw [if_neg d] at hU
              rw [if_neg (by omega)]
              exact ⟨U, hU.fr (fun q h1 h2 => wu_ne _ _ (by omega))⟩
  exact LP2 0 (Nat.zero_le _) w ⟨r1, r2, hS, fun j hj => by rw [if_neg (Nat.not_lt_zero _)]; exact hR j hj, fr.rf _ _ _⟩
