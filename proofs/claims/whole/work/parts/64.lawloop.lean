theorem and31 (x : Int32) : ∃ j, j < 32 ∧ x &&& nI 31 = nI j := by
  have h : (x &&& nI 31).toBitVec.toNat = x.toBitVec.toNat % 32 := by
    show (x.toBitVec &&& (nI 31).toBitVec).toNat = _
    rw [BitVec.toNat_and]
    have e : (nI 31).toBitVec.toNat = 2 ^ 5 - 1 := by decide
    rw [e, Nat.and_two_pow_sub_one_eq_mod]
  refine ⟨x.toBitVec.toNat % 32, Nat.mod_lt _ (by omega), ?_⟩
  have hlt : x.toBitVec.toNat % 32 < 32 := Nat.mod_lt _ (by omega)
  apply Int32.toBitVec_inj.mp
  apply BitVec.eq_of_toNat_eq
  rw [h]
  show _ = (BitVec.ofNat 32 (x.toBitVec.toNat % 32)).toNat
  rw [BitVec.toNat_ofNat]
  omega
theorem l_eqz {b N : Nat} {xs : Nat → Int32} {w : Wd} {sz cells slots sz' cells' slots' : Nat} {L : List (Option Value)} {stk : List Value} {pc : Nat} (h : sz' = sz) (h1 : cells' = cells) (h2 : slots' = slots) (k : VL b N xs w sz' cells' slots' L stk pc) : VL b N xs w sz cells slots L stk pc := h ▸ h1 ▸ h2 ▸ k
theorem law_end {N i : Nat} (hN : N ≤ 2048) (hi : i ≤ 4000) (h : N < i + 4) : nI N - nI 4 < nI i := by
  rcases Nat.lt_or_ge N 4 with h4 | h4
  · have h1 : nI N - nI 4 < (0 : Int32) := (nI_sub_neg (by omega) (by omega)).mpr h4
    rcases Nat.eq_zero_or_pos i with e | e
    · rw [e]; exact h1
    · exact i_tr h1 ((nI_ltN (a := 0) (by omega) (by omega)).mpr e)
  · rw [nI_subN h4]
    exact (nI_ltN (by omega) (by omega)).mpr (by omega)
theorem l_switch {b N B i cells slots : Nat} {xs : Nat → Int32} {w : Wd} {σ tx cm : Nat → Int32} {ns tn : Nat} {k : Bool} {x : Int32} (hi : i + 4 ≤ N) (hN : N ≤ 2048) (hc : cells ≤ 600000) (hs : slots ≤ 7302250) (hI : LI w B σ tx cm ns tn k) (K : ∀ w' σ' tx' cm' ns' tn' k', LI w' B σ' tx' cm' ns' tn' k' → VL b N xs w' (B + 1021) cells slots [some (.ref b), some (.ref B), some (.ref (B + 1017)), some (.int (nI i))] [] 816) : VL b N xs w (B + 1021) cells slots [some (.ref b), some (.ref B), some (.ref (B + 1017)), some (.int (nI i))] [.int (x &&& nI 31)] 32 := by
  obtain ⟨j, hj, e⟩ := and31 x
  rw [e]
  rcases Nat.lt_or_ge j 22 with h | h
  · obtain rfl | rfl | rfl | rfl | rfl | rfl | rfl | rfl | rfl | rfl | rfl | rfl | rfl | rfl | rfl | rfl | rfl | rfl | rfl | rfl | rfl | rfl : j = 0 ∨ j = 1 ∨ j = 2 ∨ j = 3 ∨ j = 4 ∨ j = 5 ∨ j = 6 ∨ j = 7 ∨ j = 8 ∨ j = 9 ∨ j = 10 ∨ j = 11 ∨ j = 12 ∨ j = 13 ∨ j = 14 ∨ j = 15 ∨ j = 16 ∨ j = 17 ∨ j = 18 ∨ j = 19 ∨ j = 20 ∨ j = 21 := by omega
    · exact l_tableIn (tgt := 136) (off := 104) dL_law_32 (by decide) (by decide) (by decide) (by decide) (l_case0 hi hN hc hs hI K)
    · exact l_tableIn (tgt := 169) (off := 137) dL_law_32 (by decide) (by decide) (by decide) (by decide) (l_case1 hi hN hc hs hI K)
    · exact l_tableIn (tgt := 228) (off := 196) dL_law_32 (by decide) (by decide) (by decide) (by decide) (l_case2 hi hN hc hs hI K)
    · exact l_tableIn (tgt := 261) (off := 229) dL_law_32 (by decide) (by decide) (by decide) (by decide) (l_case3 hi hN hc hs hI K)
    · exact l_tableIn (tgt := 294) (off := 262) dL_law_32 (by decide) (by decide) (by decide) (by decide) (l_case4 hi hN hc hs hI K)
    · exact l_tableIn (tgt := 327) (off := 295) dL_law_32 (by decide) (by decide) (by decide) (by decide) (l_case5 hi hN hc hs hI K)
    · exact l_tableIn (tgt := 350) (off := 318) dL_law_32 (by decide) (by decide) (by decide) (by decide) (l_case6 hi hN hc hs hI K)
    · exact l_tableIn (tgt := 393) (off := 361) dL_law_32 (by decide) (by decide) (by decide) (by decide) (l_case7 hi hN hc hs hI K)
    · exact l_tableIn (tgt := 452) (off := 420) dL_law_32 (by decide) (by decide) (by decide) (by decide) (l_case8 hi hN hc hs hI K)
    · exact l_tableIn (tgt := 465) (off := 433) dL_law_32 (by decide) (by decide) (by decide) (by decide) (l_case9 hi hN hc hs hI K)
    · exact l_tableIn (tgt := 490) (off := 458) dL_law_32 (by decide) (by decide) (by decide) (by decide) (l_case10 hi hN hc hs hI K)
    · exact l_tableIn (tgt := 503) (off := 471) dL_law_32 (by decide) (by decide) (by decide) (by decide) (l_case11 hi hN hc hs hI K)
    · exact l_tableIn (tgt := 516) (off := 484) dL_law_32 (by decide) (by decide) (by decide) (by decide) (l_case12 hi hN hc hs hI K)
    · exact l_tableIn (tgt := 529) (off := 497) dL_law_32 (by decide) (by decide) (by decide) (by decide) (l_case13 hi hN hc hs hI K)
    · exact l_tableIn (tgt := 542) (off := 510) dL_law_32 (by decide) (by decide) (by decide) (by decide) (l_case14 hi hN hc hs hI K)
    · exact l_tableIn (tgt := 585) (off := 553) dL_law_32 (by decide) (by decide) (by decide) (by decide) (l_case15 hi hN hc hs hI K)
    · exact l_tableIn (tgt := 628) (off := 596) dL_law_32 (by decide) (by decide) (by decide) (by decide) (l_case16 hi hN hc hs hI K)
    · exact l_tableIn (tgt := 661) (off := 629) dL_law_32 (by decide) (by decide) (by decide) (by decide) (l_case17 hi hN hc hs hI K)
    · exact l_tableIn (tgt := 704) (off := 672) dL_law_32 (by decide) (by decide) (by decide) (by decide) (l_case18 hi hN hc hs hI K)
    · exact l_tableIn (tgt := 737) (off := 705) dL_law_32 (by decide) (by decide) (by decide) (by decide) (l_case19 hi hN hc hs hI K)
    · exact l_tableIn (tgt := 770) (off := 738) dL_law_32 (by decide) (by decide) (by decide) (by decide) (l_case20 hi hN hc hs hI K)
    · exact l_tableIn (tgt := 793) (off := 761) dL_law_32 (by decide) (by decide) (by decide) (by decide) (l_case21 hi hN hc hs hI K)
  · refine l_tableOut (tgt := 816) dL_law_32 (Or.inr ?_) (by decide) (K _ _ _ _ _ _ _ hI)
    rw [nI_toInt (by omega)]
    omega
theorem law_loop {b N B cells slots : Nat} {xs : Nat → Int32} (hN : N ≤ 2048) (hc : cells ≤ 600000) (hs : slots ≤ 7302250) : ∀ (t : Nat) {i : Nat} {w : Wd} {σ tx cm : Nat → Int32} {ns tn : Nat} {k : Bool}, N - i ≤ t → i ≤ 4000 → LI w B σ tx cm ns tn k → VL b N xs w (B + 1021) cells slots [some (.ref b), some (.ref B), some (.ref (B + 1017)), some (.int (nI i))] [] 18 := by
  intro t
  induction t with
  | zero =>
    intro i w σ tx cm ns tn k ht hi hI
    refine l_iload_n dL_law_18 rfl ?_
    refine l_aload_n dL_law_19 rfl ?_
    refine l_slen dL_law_20 ?_
    refine l_iconst (v := nI 4) dL_law_21 (by decide) ?_
    refine l_isub dL_law_22 ?_
    refine l_icmp_gt (tgt := 822) dL_law_23 (by decide) (fun _ => ?_) (fun hz => ?_)
    · refine l_iconst (v := 1) dL_law_822 (by decide) ?_
      exact l_ret dL_law_823 hc hs
    · exact absurd (law_end hN hi (by omega)) hz
  | succ t ih =>
    intro i w σ tx cm ns tn k ht hi hI
    refine l_iload_n dL_law_18 rfl ?_
    refine l_aload_n dL_law_19 rfl ?_
    refine l_slen dL_law_20 ?_
    refine l_iconst (v := nI 4) dL_law_21 (by decide) ?_
    refine l_isub dL_law_22 ?_
    refine l_icmp_gt (tgt := 822) dL_law_23 (by decide) (fun _ => ?_) (fun hz => ?_)
    · refine l_iconst (v := 1) dL_law_822 (by decide) ?_
      exact l_ret dL_law_823 hc hs
    · have h4 : i + 4 ≤ N := Nat.le_of_not_lt (fun h => hz (law_end hN hi h))
      refine l_aload_n dL_law_26 rfl ?_
      refine l_iload_n dL_law_27 rfl ?_
      refine l_sld i dL_law_28 rfl (by omega) (by omega) ?_
      refine l_bipush (v := nI 31) dL_law_29 (by decide) ?_
      refine l_iand dL_law_31 ?_
      refine l_switch h4 hN hc hs hI (fun w' σ' tx' cm' ns' tn' k' hI' => ?_)
      refine l_iinc (y := nI (i + 4)) (L' := [some (.ref b), some (.ref B), some (.ref (B + 1017)), some (.int (nI (i + 4)))]) dL_law_816 (by decide) rfl (nI_addN i 4) rfl ?_
      exact l_goto (tgt := 18) dL_law_819 (by decide) (ih (by omega) (by omega) hI')
theorem hnX8 : ∀ j, j < 6 → defaultValue (tyX8 j) = vp_V [.null, .int 0, .int 0, .null, .int 0, .null] j := by decide
set_option maxHeartbeats 1000000 in
theorem start_VL {b N B : Nat} {xs : Nat → Int32} (hN : N ≤ 2048) : VL b N xs (fun _ => none) B 0 0 [some (.ref b), none, none, none] [] 0 := by
  refine l_new dL_law_0 FTX7 cl_L_7 insX7 iniX7 hnX7 (Nat.le_of_ble_eq_true rfl) (Nat.le_of_ble_eq_true rfl) ?_
  refine l_dup dL_law_3 rfl ?_
  refine l_callI (As := []) oX7_init dL_law_4 ml_L_9 (c_X7init (wu_eq _ _ _)) rfl (by decide) (Nat.le_of_ble_eq_true rfl) (Nat.le_of_ble_eq_true rfl) (Nat.le_of_ble_eq_true rfl) (fun r1 w1 z1 hp => ?_)
  obtain ⟨rfl, rfl, hC, -⟩ := hp
  refine l_astore_n (L' := [some (.ref b), some (.ref B), none, none]) dL_law_7 (by decide) rfl ?_
  refine l_new dL_law_8 FTX8 cl_L_10 insX8 iniX8 hnX8 (Nat.le_of_ble_eq_true rfl) (Nat.le_of_ble_eq_true rfl) ?_
  refine l_dup dL_law_11 rfl ?_
  refine l_callI (As := []) oX8_init dL_law_12 ml_L_12 (c_X8init rfl (wu_eq _ _ _)) rfl (by decide) (Nat.le_of_ble_eq_true rfl) (Nat.le_of_ble_eq_true rfl) (Nat.le_of_ble_eq_true rfl) (fun r2 w2 z2 hp => ?_)
  obtain ⟨rfl, rfl, hM, hk⟩ := hp
  have hC2 : CR w2 B (in5 16) 0 false (fun _ => 0) 0 := hC.fr (fun q h1 h2 => (hk q (by omega)).trans (wu_ne _ _ (by omega)))
  refine l_astore_n (L' := [some (.ref b), some (.ref B), some (.ref (B + 1017)), none]) dL_law_15 (by decide) rfl ?_
  refine l_iconst (v := nI 0) dL_law_16 (by decide) ?_
  refine l_istore_n (L' := [some (.ref b), some (.ref B), some (.ref (B + 1017)), some (.int (nI 0))]) dL_law_17 (by decide) rfl ?_
  exact law_loop hN (Nat.le_of_ble_eq_true rfl) (Nat.le_of_ble_eq_true rfl) N (by omega) (by omega) ⟨hC2, hM⟩
