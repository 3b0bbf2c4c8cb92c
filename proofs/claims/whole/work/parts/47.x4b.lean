abbrev s4o (S : Nat) (x6 x7 x8 x9 x10 : Int32) : Cl := ob 4 [.ref (S + 1), .ref (S + 2), .ref (S + 3), .ref (S + 4), .ref (S + 5), .ref (S + 6), .int x6, .int x7, .int x8, .int x9, .int x10]
theorem SBx_set {w : Wd} {S : Nat} {g : Nat → Int32} {x6 x7 x8 x9 x10 : Int32} (h : SBx w S g x6 x7 x8 x9 x10) (y6 y7 y8 y9 y10 : Int32) : SBx (wu w S (s4o S y6 y7 y8 y9 y10)) S g y6 y7 y8 y9 y10 := by
  obtain ⟨s1, ⟨li, s2, s2b⟩, ⟨ak, s3, s3b⟩, ⟨ro, s4, s4b⟩, ⟨ac, s5, s5b⟩, ⟨lf, s6, s6b⟩, s7⟩ := h
  have e : ∀ q, q ≠ S → wu w S (s4o S y6 y7 y8 y9 y10) q = w q := fun q hq => wu_ne _ _ hq
  exact ⟨wu_eq _ _ _, ⟨li, (e _ (by omega)).trans s2, s2b⟩, ⟨ak, (e _ (by omega)).trans s3, s3b⟩, ⟨ro, (e _ (by omega)).trans s4, s4b⟩, ⟨ac, (e _ (by omega)).trans s5, s5b⟩, ⟨lf, (e _ (by omega)).trans s6, s6b⟩, fun p hp => (s7 p hp).fr (fun q h1 h2 => e q (by omega))⟩
/-- one label is written -/
theorem SBx_lab {w w' : Wd} {S p : Nat} {g s : Nat → Int32} {x6 x7 x8 x9 x10 : Int32} (h : SBx w S g x6 x7 x8 x9 x10) (hp : p < 24) (hl : LbR w' (S + 72 + 4 * p) s p) (hf : fr (S + 72 + 4 * p) 4 w w') (e : ∀ q, (q < 16 ∨ (22 ≤ q ∧ q < 32) ∨ (272 ≤ q ∧ q < 1808 ∧ (q < 272 + 64 * p ∨ 272 + 64 * p + 64 ≤ q))) → s q = g q) : SBx w' S s x6 x7 x8 x9 x10 := by
  obtain ⟨s1, ⟨li, s2, s2b⟩, ⟨ak, s3, s3b⟩, ⟨ro, s4, s4b⟩, ⟨ac, s5, s5b⟩, ⟨lf, s6, s6b⟩, s7⟩ := h
  refine ⟨(hf _ (by omega)).trans s1, ⟨li, (hf _ (by omega)).trans s2, fun r hr => (s2b r hr).trans (e _ (by omega)).symm⟩, ⟨ak, (hf _ (by omega)).trans s3, fun r hr => (s3b r hr).trans (e _ (by omega)).symm⟩, ⟨ro, (hf _ (by omega)).trans s4, fun r hr => (s4b r hr).trans (e _ (by omega)).symm⟩, ⟨ac, (hf _ (by omega)).trans s5, fun r hr => (s5b r hr).trans (e _ (by omega)).symm⟩, ⟨lf, (hf _ (by omega)).trans s6, s6b⟩, fun q hq => ?_⟩
  by_cases z : q = p
  · rw [z]; exact hl
  · exact ((s7 q hq).fr (fun i h1 h2 => hf i (by omega))).congr (fun i h1 h2 => e i (by omega))
theorem WS_ca {g : Nat → Int32} (h : WS g) {a lim : Nat} (ha : a < 8) (hl : 1 ≤ lim) : ∀ i, i ≤ 3 → WS (caS g a lim i)
  | 0, _ => h
  | i + 1, hi => WS_cut (WS_ca h ha hl i (by omega)) (by omega) hl
theorem ca_out {g : Nat → Int32} {a lim i q : Nat} (ha : a < 8) (hi : i ≤ 3) (h : q < 21 ∨ (22 ≤ q ∧ q < 272) ∨ 1808 ≤ q) : caS g a lim i q = g q := caS_out (by omega) i (fun b hb => ⟨by omega, by omega⟩)
set_option maxHeartbeats 2000000 in
set_option maxRecDepth 100000 in
theorem c_cutLabelsOf {w : Wd} {S : Nat} {g : Nat → Int32} (h : SR w S g) (a : Nat) (ha : a < 8) : Wr mX4_cutLabelsOf 2 [.ref S, .int (nI a)] w (fun r' w' => r' = some (.int (nI (caN g a (limW g a) 3))) ∧ SR w' S (caS g a (limW g a) 3) ∧ fr S 168 w w') := by
  intro sz
  refine Ev.ofV [some (.ref S), some (.int (nI a)), none, none, none] (by decide) (Nat.le_of_ble_eq_true rfl) rfl rfl rfl ?_
  have h0 := h
  obtain ⟨hB, ⟨n, π, κ, hRR⟩, hW, hI, hO⟩ := h0
  have hBb := hB
  obtain ⟨s1, ⟨li, s2, s2b⟩, ⟨ak, s3, s3b⟩, ⟨ro, s4, s4b⟩, ⟨ac, s5, s5b⟩, ⟨lf, s6, s6b⟩, s7⟩ := hBb
  have hlm : limW g a < 16 ∧ 1 ≤ limW g a := ⟨(hW.2.2.1 _ (hW.1 a ha).2).1.2, (hW.2.2.1 _ (hW.1 a ha).2).2⟩
  refine v_aload_n dX4_cutLabelsOf_0 rfl ?_
  refine v_iload_n dX4_cutLabelsOf_1 rfl ?_
  refine u_rV1 oX4_limitOf dX4_cutLabelsOf_2 ml_X4_77 (c_limitOf h a ha) s1 (by decide) (Nat.le_of_ble_eq_true rfl) (Nat.le_refl _) (Nat.le_refl _) ?_
  refine v_istore_n dX4_cutLabelsOf_5 (by decide) rfl ?_
  refine v_iconst (v := nI 0) dX4_cutLabelsOf_6 (by decide) ?_
  refine v_istore_n dX4_cutLabelsOf_7 (by decide) rfl ?_
  refine v_iconst (v := nI 0) dX4_cutLabelsOf_8 (by decide) ?_
  refine v_istore dX4_cutLabelsOf_9 (by decide) rfl ?_
  have LP11 : ∀ i, i ≤ 3 → ∀ w2 : Wd, (SBx w2 S (caS g a (limW g a) i) (g 16) (g 17) (g 19) (g 20) (g 21) ∧ fr S 168 w w2 ∧ ∀ q, S + 6 ≤ q → q < S + 72 → w2 q = w q) → V mX4_cutLabelsOf 2 0 0 (fun r' w' zz => zz = sz ∧ (r' = some (.int (nI (caN g a (limW g a) 3))) ∧ SR w' S (caS g a (limW g a) 3) ∧ fr S 168 w w')) (w2) (sz) (0) (0) [some (.ref S), some (.int (nI a)), some (.int (nI (limW g a))), some (.int (nI (caN g a (limW g a) i))), some (.int (nI i))] [] 11 := by
    refine dn (fun i hi ih => ?_)
    intro w2 hI2
    obtain ⟨c1, c2, c3⟩ := hI2
    have c1b := c1
    obtain ⟨t1, -, -, -, -, ⟨lf2, t6, t6b⟩, t7⟩ := c1b
    refine v_iload dX4_cutLabelsOf_11 rfl ?_
    refine v_iconst (v := nI 3) dX4_cutLabelsOf_13 (by decide) ?_
    refine v_icmp_geN (tgt := 44) dX4_cutLabelsOf_14 (by decide) (by omega) (by omega) (fun b14 => ?_) (fun b14 => ?_)
    ·
      have e1 : i = 3 := by omega
      subst e1
      refine v_aload_n dX4_cutLabelsOf_44 rfl ?_
      refine v_dup dX4_cutLabelsOf_45 rfl ?_
      refine v_get 10 dX4_cutLabelsOf_46 FTX4 (by decide) rfl fl_X4_70 t1 rfl ?_
      refine v_iload_n dX4_cutLabelsOf_49 rfl ?_
      refine v_iadd dX4_cutLabelsOf_50 ?_
      refine v_put 10 dX4_cutLabelsOf_51 FTX4 (by decide) rfl fl_X4_70 t1 rfl rfl (Nat.le_of_ble_eq_true rfl) rfl ?_
      refine v_iload_n dX4_cutLabelsOf_54 rfl ?_
      refine v_iret dX4_cutLabelsOf_55 rfl (Nat.le_refl _) (Nat.le_refl _) ?_
      have o1 : ∀ q, (q < 21 ∨ (22 ≤ q ∧ q < 272) ∨ 1808 ≤ q) → caS g a (limW g a) 3 q = g q := fun q hq => ca_out ha (Nat.le_refl _) hq
      refine ⟨rfl, rfl, ⟨?_, ⟨n, π, κ, ?_⟩, WS_ca hW ha hlm.2 3 (Nat.le_refl _), hI.congr (fun q h1 h2 => o1 q (by omega)) (fun k hk => ⟨o1 _ (by omega), o1 _ (by omega)⟩), hO.congr (fun k hk => ⟨o1 _ (by omega), o1 _ (by omega), o1 _ (by omega)⟩)⟩, c2.wu _ (by omega) (by omega)⟩
      · show SBx _ S _ (caS g a (limW g a) 3 16) (caS g a (limW g a) 3 17) (caS g a (limW g a) 3 19) (caS g a (limW g a) 3 20) (caS g a (limW g a) 3 21)
        rw [o1 16 (by omega), o1 17 (by omega), o1 19 (by omega), o1 20 (by omega), caS_21]
        exact SBx_set c1 _ _ _ _ _
      · exact (hRR.fr (fun q h1 h2 => by rw [wu_ne _ _ (by omega)]; exact c3 q (by omega) (by omega))).congr hW (fun q h1 h2 => o1 q (by omega))
    ·
      obtain ⟨vi, hl, hv⟩ := t7 (3 * a + i) (by omega)
      refine v_aload_n dX4_cutLabelsOf_17 rfl ?_
      refine v_get 4 dX4_cutLabelsOf_18 FTX4 (by decide) rfl fl_X4_26 t1 rfl ?_
      refine v_iload_n dX4_cutLabelsOf_21 rfl ?_
      refine v_iload dX4_cutLabelsOf_22 rfl ?_
      refine u_rSN2 oX7_placeOf dX4_cutLabelsOf_24 (by decide) (c_place7 a i) (by decide) (Nat.le_of_ble_eq_true rfl) (Nat.le_refl _) (Nat.le_refl _) ?_
      refine v_aald _ (by decide) dX4_cutLabelsOf_27 t6 rfl (by omega) (by decide) (t6b (3 * a + i) (by omega)) ?_
      refine v_iload_n dX4_cutLabelsOf_28 rfl ?_
      refine v_wV1 oX1_cutTo dX4_cutLabelsOf_29 ml_X4_84 (c_lcut hl (limW g a) hlm.2 (by omega)) hl.1 (by decide) (Nat.le_of_ble_eq_true rfl) (Nat.le_refl _) (Nat.le_refl _) (fun r' w3 hq => ?_)
      obtain ⟨rfl, q1, q2⟩ := hq
      have hz := hl.2.sz.2
      have hp3 : 3 * a + i < 24 := by omega
      have hlb := LbR_cut hv (by omega) q1
      have hI3 : (SBx w3 S (caS g a (limW g a) (i + 1)) (g 16) (g 17) (g 19) (g 20) (g 21) ∧ fr S 168 w w3 ∧ ∀ q, S + 6 ≤ q → q < S + 72 → w3 q = w q) := ⟨SBx_lab c1 hp3 hlb q2 (fun q hq => cutS_out (by omega) (by omega) (by omega)), c2.tr (q2.mono (by omega) (by omega)), fun q h1 h2 => (q2 q (by omega)).trans (c3 q h1 h2)⟩
      refine v_eqs (show [Value.int (b2i (cutB (caS g a (limW g a) i) (3 * a + i) (limW g a)))] = _ from rfl) ?_
      refine v_if_eqB (tgt := 38) dX4_cutLabelsOf_32 (by decide) (fun b32 => ?_) (fun b32 => ?_)
      ·
        refine v_iincN dX4_cutLabelsOf_38 (by decide) rfl rfl rfl ?_
        refine v_goto (tgt := 11) dX4_cutLabelsOf_41 (by decide) ?_
        refine v_eqL ?_ (ih (by omega) w3 hI3)
        simp [st, caN, b32]
      ·
        refine v_iincN dX4_cutLabelsOf_35 (by decide) rfl rfl rfl ?_
        refine v_iincN dX4_cutLabelsOf_38 (by decide) rfl rfl rfl ?_
        refine v_goto (tgt := 11) dX4_cutLabelsOf_41 (by decide) ?_
        refine v_eqL ?_ (ih (by omega) w3 hI3)
        simp [st, caN, b32]
  exact LP11 0 (Nat.zero_le _) w ⟨hB, fr.rf _ _ _, fun _ _ _ => rfl⟩
theorem WS_lim {g : Nat → Int32} (h : WS g) {r : Nat} {y : Int32} (hr : r < 4) (hy : ub y 16 ∧ 1 ≤ nt y) : WS (upd g (12 + r) y) := by
  obtain ⟨h1, h2, h3, h4, h5, h6, h7⟩ := h
  have e : ∀ q, q ≠ 12 + r → upd g (12 + r) y q = g q := fun q hq => up_ne _ _ hq
  refine ⟨fun a ha => ?_, fun i hi => ?_, fun i hi => ?_, ?_, ?_, fun p hp => ?_, fun k hk => ?_⟩
  · rw [e _ (by omega)]; exact h1 a ha
  · rw [e _ (by omega)]; exact h2 i hi
  · by_cases z : i = r
    · rw [z, up_eq]; exact hy
    · rw [e _ (by omega)]; exact h3 i hi
  · rw [e _ (by omega)]; exact h4
  · rw [e _ (by omega)]; exact h5
  · rw [e _ (by omega)]
    exact ⟨(h6 p hp).1, (h6 p hp).2.imp id (okT_congr (fun j hj => (e _ (by omega)).symm))⟩
  · rw [e _ (by omega)]
    refine (h7 k hk).imp id (fun ⟨a1, a2, a3, a4, a5, a6⟩ => ?_)
    unfold rwk
    rw [e _ (by omega), e 18 (by omega), e _ (by omega), e _ (by omega), e _ (by omega), e _ (by omega)]
    exact ⟨a1, a2, a3, a4, a5, okT_congr (fun j hj => (e _ (by omega)).symm) a6⟩
/-- a write of one of the state's rows of numbers, below the votes -/
theorem SR_lo {w w' : Wd} {S : Nat} {g s : Nat → Int32} (h : SR w S g) (hB : SB w' S s) (hW : WS s) (hf : ∀ q, S + 6 ≤ q → q < S + 72 → w' q = w q) (e : ∀ q, (q = 18 ∨ (32 ≤ q ∧ q < 272) ∨ 1808 ≤ q) → s q = g q) : SR w' S s := by
  obtain ⟨h1, ⟨n, π, κ, h2⟩, h3, h4, h5⟩ := h
  exact ⟨hB, ⟨n, π, κ, (h2.fr (fun q a b => hf q (by omega) (by omega))).congr h3 (fun q a b => e q (by omega))⟩, hW, h4.congr (fun q _ _ => e q (by omega)) (fun k hk => ⟨e _ (by omega), e _ (by omega)⟩), h5.congr (fun k hk => ⟨e _ (by omega), e _ (by omega), e _ (by omega)⟩)⟩
theorem SR_lim {w : Wd} {S r : Nat} {g li : Nat → Int32} {y : Int32} (h : SR w S g) (hr : r < 4) (hy : ub y 16 ∧ 1 ≤ nt y) (hli : ∀ r, r < 4 → li r = g (12 + r)) : SR (wu w (S + 1) (ia 1 4 (upd li r y))) S (upd g (12 + r) y) := by
  have e : ∀ q, q ≠ 12 + r → upd g (12 + r) y q = g q := fun q hq => up_ne _ _ hq
  refine SR_lo h ?_ (WS_lim h.2.2.1 hr hy) (fun q h1 h2 => wu_ne _ _ (by omega)) (fun q hq => e q (by omega))
  obtain ⟨⟨s1, -, ⟨ak, s3, s3b⟩, ⟨ro, s4, s4b⟩, ⟨ac, s5, s5b⟩, ⟨lf, s6, s6b⟩, s7⟩, -⟩ := h
  have ew : ∀ q, q ≠ S + 1 → wu w (S + 1) (ia 1 4 (upd li r y)) q = w q := fun q hq => wu_ne _ _ hq
  show SBx _ S _ (upd g (12 + r) y 16) (upd g (12 + r) y 17) (upd g (12 + r) y 19) (upd g (12 + r) y 20) (upd g (12 + r) y 21)
  rw [e 16 (by omega), e 17 (by omega), e 19 (by omega), e 20 (by omega), e 21 (by omega)]
  refine ⟨(ew _ (by omega)).trans s1, ⟨_, wu_eq _ _ _, fun i hi => ?_⟩, ⟨ak, (ew _ (by omega)).trans s3, fun i hi => (s3b i hi).trans (e _ (by omega)).symm⟩, ⟨ro, (ew _ (by omega)).trans s4, fun i hi => (s4b i hi).trans (e _ (by omega)).symm⟩, ⟨ac, (ew _ (by omega)).trans s5, fun i hi => (s5b i hi).trans (e _ (by omega)).symm⟩, ⟨lf, (ew _ (by omega)).trans s6, s6b⟩, fun p hp => ((s7 p hp).fr (fun q h1 h2 => ew q (by omega))).congr (fun q h1 h2 => e q (by omega))⟩
  by_cases z : i = r
  · rw [z, up_eq, up_eq]
  · rw [up_ne _ _ z, e _ (by omega)]
    exact hli i hi
set_option maxHeartbeats 2000000 in
set_option maxRecDepth 100000 in
theorem c_changeLimit {w : Wd} {S : Nat} {g : Nat → Int32} (h : SR w S g) (r : Nat) (y : Int32) (hr : r < 4) (hy : ub y 16 ∧ 1 ≤ nt y) : Wr mX4_changeLimit 3 [.ref S, .int (nI r), .int y] w (fun r' w' => r' = some (.int (nI (slN (upd g (12 + r) y) r (nt y) 8))) ∧ SR w' S (slS (upd g (12 + r) y) r (nt y) 8) ∧ fr S 168 w w') := by
  intro sz
  refine Ev.ofV [some (.ref S), some (.int (nI r)), some (.int y), none, none] (by decide) (Nat.le_of_ble_eq_true rfl) rfl rfl rfl ?_
  have h0 := h
  obtain ⟨hB, ⟨n, π, κ, hRR⟩, hW, hI, hO⟩ := h0
  have hBb := hB
  obtain ⟨s1, ⟨li, s2, s2b⟩, ⟨ak, s3, s3b⟩, ⟨ro, s4, s4b⟩, ⟨ac, s5, s5b⟩, ⟨lf, s6, s6b⟩, s7⟩ := hBb
  refine v_aload_n dX4_changeLimit_0 rfl ?_
  refine v_get 0 dX4_changeLimit_1 FTX4 (by decide) rfl fl_X4_9 s1 rfl ?_
  refine v_iload_n dX4_changeLimit_4 rfl ?_
  refine v_iload_n dX4_changeLimit_5 rfl ?_
  refine v_iast _ dX4_changeLimit_6 s2 rfl hr (by decide) ?_
  refine v_iconst (v := nI 0) dX4_changeLimit_7 (by decide) ?_
  refine v_istore_n dX4_changeLimit_8 (by decide) rfl ?_
  refine v_iconst (v := nI 0) dX4_changeLimit_9 (by decide) ?_
  refine v_istore dX4_changeLimit_10 (by decide) rfl ?_
  have LP12 : ∀ i, i ≤ 8 → ∀ w2 : Wd, (SR w2 S (slS (upd g (12 + r) y) r (nt y) i) ∧ fr S 168 w w2) → V mX4_changeLimit 3 0 0 (fun r' w' zz => zz = sz ∧ (r' = some (.int (nI (slN (upd g (12 + r) y) r (nt y) 8))) ∧ SR w' S (slS (upd g (12 + r) y) r (nt y) 8) ∧ fr S 168 w w')) (w2) (sz) (0) (0) [some (.ref S), some (.int (nI r)), some (.int y), some (.int (nI (slN (upd g (12 + r) y) r (nt y) i))), some (.int (nI i))] [] 12 := by
    refine dn (fun i hi ih => ?_)
    intro w2 hI2
    obtain ⟨c1, c2⟩ := hI2
    have c1b := c1.1
    obtain ⟨t1, -, -, ⟨ro2, t4, t4b⟩, -⟩ := c1b
    refine v_iload dX4_changeLimit_12 rfl ?_
    refine v_bipush (v := nI 8) dX4_changeLimit_14 (by decide) ?_
    refine v_icmp_geN (tgt := 45) dX4_changeLimit_16 (by decide) (by omega) (by omega) (fun b16 => ?_) (fun b16 => ?_)
    ·
      have e1 : i = 8 := by omega
      subst e1
      refine v_iload_n dX4_changeLimit_45 rfl ?_
      refine v_iret dX4_changeLimit_46 rfl (Nat.le_refl _) (Nat.le_refl _) ?_
      exact ⟨rfl, rfl, c1, c2⟩
    ·
      refine v_aload_n dX4_changeLimit_19 rfl ?_
      refine v_get 2 dX4_changeLimit_20 FTX4 (by decide) rfl fl_X4_18 t1 rfl ?_
      refine v_iload dX4_changeLimit_23 rfl ?_
      refine v_ialdE _ dX4_changeLimit_25 t4 rfl (by omega) (by decide) ((t4b i (by omega)).trans ((slS_out (by omega) i (by omega)).trans (up_ne _ _ (by omega)))) ?_
      refine v_iload_n dX4_changeLimit_26 rfl ?_
      refine v_icmp_ne (tgt := 39) dX4_changeLimit_27 (by decide) (fun b27 => ?_) (fun b27 => ?_)
      ·
        refine v_iincN dX4_changeLimit_39 (by decide) rfl rfl rfl ?_
        refine v_goto (tgt := 12) dX4_changeLimit_42 (by decide) ?_
        refine v_eqL ?_ (ih (by omega) w2 ⟨?_, c2⟩)
        · rw [slN, if_neg (fun z => b27 ((up_ne _ _ (by omega)).symm.trans z))]
          rfl
        · rw [slS, if_neg (fun z => b27 ((up_ne _ _ (by omega)).symm.trans z))]
          exact c1
      ·
        refine v_iload_n dX4_changeLimit_30 rfl ?_
        refine v_aload_n dX4_changeLimit_31 rfl ?_
        refine v_iload dX4_changeLimit_32 rfl ?_
        refine v_wV1 oX4_cutLabelsOf dX4_changeLimit_34 ml_X4_73 (c_cutLabelsOf c1 i (by omega)) t1 (by decide) (Nat.le_of_ble_eq_true rfl) (Nat.le_refl _) (Nat.le_refl _) (fun r' w3 hq => ?_)
        obtain ⟨rfl, q1, q2⟩ := hq
        have gi : (upd g (12 + r) y) i = nI r := (up_ne _ _ (by omega)).trans b27
        have si : (slS (upd g (12 + r) y) r (nt y) i) i = nI r := (slS_out (by omega) i (by omega)).trans gi
        have hlm : limW (slS (upd g (12 + r) y) r (nt y) i) i = nt y := by
          unfold limW
          rw [si, nt_nI (by omega), slS_at hr]
        rw [hlm] at q1
        rw [hlm]
        refine v_eqs (show [Value.int (nI (caN (slS (upd g (12 + r) y) r (nt y) i) i (nt y) 3)), .int (nI (slN (upd g (12 + r) y) r (nt y) i))] = _ from rfl) ?_
        refine v_iaddN dX4_changeLimit_37 ?_
        refine v_istore_n dX4_changeLimit_38 (by decide) rfl ?_
        refine v_iincN dX4_changeLimit_39 (by decide) rfl rfl rfl ?_
        refine v_goto (tgt := 12) dX4_changeLimit_42 (by decide) ?_
        refine v_eqL ?_ (ih (by omega) w3 ⟨?_, c2.tr q2⟩)
        · rw [slN, if_pos gi]
          rfl
        · rw [slS, if_pos gi]
          exact q1
  exact LP12 0 (Nat.zero_le _) _ ⟨SR_lim h hr hy s2b, (fr.rf S 168 w).wu _ (by omega) (by omega)⟩
