/-- a label's object; a rewrite's object -/
def LO (w : Wd) (a : Nat) (vi wk ct : Int32) (f : Nat → Int32) (n : Nat) : Prop := w a = some (ob 1 [.ref (a + 1), .int vi, .int wk, .int ct]) ∧ WO w (a + 1) f n
def RO (w : Wd) (a : Nat) (nu pl vi ag vt : Int32) (f : Nat → Int32) (n : Nat) : Prop := w a = some (ob 2 [.ref (a + 1), .int nu, .int pl, .int vi, .int ag, .int vt]) ∧ WO w (a + 1) f n
theorem LO.fr {w w' : Wd} {a n : Nat} {vi wk ct : Int32} {f : Nat → Int32} (h : LO w a vi wk ct f n) (e : ∀ q, a ≤ q → q < a + 4 → w' q = w q) : LO w' a vi wk ct f n := ⟨(e _ (by omega) (by omega)).trans h.1, h.2.fr (fun q h1 h2 => e q (by omega) (by omega))⟩
theorem RO.fr {w w' : Wd} {a n : Nat} {nu pl vi ag vt : Int32} {f : Nat → Int32} (h : RO w a nu pl vi ag vt f n) (e : ∀ q, a ≤ q → q < a + 4 → w' q = w q) : RO w' a nu pl vi ag vt f n := ⟨(e _ (by omega) (by omega)).trans h.1, h.2.fr (fun q h1 h2 => e q (by omega) (by omega))⟩
theorem WO.sz {w : Wd} {a n : Nat} {f : Nat → Int32} (h : WO w a f n) : nw f n ≤ 30 ∧ n ≤ 60 := by
  obtain ⟨L, s, -, -, -, h4, h5, -⟩ := h
  exact ⟨okT_nw30 h5 h4, h4⟩
theorem WO.at {w : Wd} {a n : Nat} {f : Nat → Int32} (h : WO w a f n) : w a = some (ob 6 [.ref (a + 1), .int (nI n), .ref (a + 2), .int (nI (nw f n))]) := by
  obtain ⟨L, s, h1, -⟩ := h
  exact h1
theorem pcn_le (m : Nat) : pcn m ≤ 10 := cnt_le _ _
theorem bit_ok {m v : Nat} (hm : m < 1024) (hv : v < 10) : (nI m &&& (nI 1 <<< (nI v &&& 31))) = 0 ↔ m.testBit v = false := by
  have : ∀ m : Fin 1024, ∀ v : Fin 10, decide ((nI m.val &&& (nI 1 <<< (nI v.val &&& 31))) = 0) = !m.val.testBit v.val := by decide +kernel
  have h := this ⟨m, hm⟩ ⟨v, hv⟩
  have h2 : decide ((nI m &&& (nI 1 <<< (nI v &&& 31))) = 0) = !m.testBit v := h
  cases e : m.testBit v
  · rw [e] at h2
    simpa using h2
  · rw [e] at h2
    simpa using h2
set_option maxHeartbeats 2000000 in
set_option maxRecDepth 100000 in
theorem c_stands {w : Wd} {a n : Nat} {vi wk ct : Int32} {f : Nat → Int32} (h : LO w a vi wk ct f n) : Rd mX1_stands 0 [.ref a] w (some (.int (b2i (decide (0 < n))))) := by
  intro sz
  refine Ev.ofV [some (.ref a)] (by decide) (Nat.le_of_ble_eq_true rfl) rfl rfl rfl ?_
  have hs := h.2.sz
  have hn := nw_pos (f := f) (n := n)
  refine v_aload_n dX1_stands_0 rfl ?_
  refine v_get 0 dX1_stands_1 FTX1 (by decide) rfl fl_X1_12 h.1 rfl ?_
  refine v_get 3 dX1_stands_4 FTX6 (by decide) rfl fl_X1_22 h.2.at rfl ?_
  refine v_if_leN (tgt := 14) dX1_stands_7 (by decide) (by omega) (fun b7 => ?_) (fun b7 => ?_)
  ·
    refine v_iconst (v := nI 0) dX1_stands_14 (by decide) ?_
    refine v_zret dX1_stands_15 rfl (by decide) (Nat.le_refl _) (Nat.le_refl _) ?_
    exact ⟨by rw [decide_eq_false (by omega)]; rfl, rfl, rfl⟩
  ·
    refine v_iconst (v := nI 1) dX1_stands_10 (by decide) ?_
    refine v_goto (tgt := 15) dX1_stands_11 (by decide) ?_
    refine v_zret dX1_stands_15 rfl (by decide) (Nat.le_refl _) (Nat.le_refl _) ?_
    exact ⟨by rw [decide_eq_true (by omega)]; rfl, rfl, rfl⟩
set_option maxHeartbeats 2000000 in
set_option maxRecDepth 100000 in
theorem c_lbecome {w : Wd} {a n : Nat} {vi wk ct : Int32} {f : Nat → Int32} (h : LO w a vi wk ct f n) {b m : Nat} {g : Nat → Int32} (hb : WO w b g m) (hd : b + 3 ≤ a ∨ a + 4 ≤ b) (x y : Int32) : Wr mX1_become 2 [.ref a, .ref b, .int x, .int y] w (fun r' w' => r' = none ∧ LO w' a x y (nI 0) g m ∧ fr a 4 w w') := by
  intro sz
  refine Ev.ofV [some (.ref a), some (.ref b), some (.int x), some (.int y)] (by decide) (Nat.le_of_ble_eq_true rfl) rfl rfl rfl ?_
  refine v_aload_n dX1_become_0 rfl ?_
  refine v_get 0 dX1_become_1 FTX1 (by decide) rfl fl_X1_12 h.1 rfl ?_
  refine v_aload_n dX1_become_4 rfl ?_
  refine v_wV1 oX6_copyFrom dX1_become_5 ml_X1_25 (c_copyFrom6 h.2 hb (by omega)) h.2.at (by decide) (Nat.le_of_ble_eq_true rfl) (Nat.le_refl _) (Nat.le_refl _) (fun r' w1 hq => ?_)
  obtain ⟨rfl, q1, q2⟩ := hq
  refine v_aload_n dX1_become_8 rfl ?_
  refine v_iload_n dX1_become_9 rfl ?_
  refine v_put 1 dX1_become_10 FTX1 (by decide) rfl fl_X1_18 ((q2 _ (by omega)).trans h.1) rfl rfl (Nat.le_of_ble_eq_true rfl) rfl ?_
  refine v_aload_n dX1_become_13 rfl ?_
  refine v_iload_n dX1_become_14 rfl ?_
  refine v_put 2 dX1_become_15 FTX1 (by decide) rfl fl_X1_29 (wu_eq _ _ _) rfl rfl (Nat.le_of_ble_eq_true rfl) rfl ?_
  refine v_aload_n dX1_become_18 rfl ?_
  refine v_iconst (v := nI 0) dX1_become_19 (by decide) ?_
  refine v_put 3 dX1_become_20 FTX1 (by decide) rfl fl_X1_32 (wu_eq _ _ _) rfl rfl (Nat.le_of_ble_eq_true rfl) rfl ?_
  refine v_ret dX1_become_23 rfl (Nat.le_refl _) (Nat.le_refl _) ?_
  exact ⟨rfl, rfl, ⟨wu_eq _ _ _, q1.fr (fun q h1 h2 => by rw [wu_ne _ _ (by omega), wu_ne _ _ (by omega), wu_ne _ _ (by omega)])⟩, (((q2.mono (by omega) (by omega)).wu _ (by omega) (by omega)).wu _ (by omega) (by omega)).wu _ (by omega) (by omega)⟩
set_option maxHeartbeats 2000000 in
set_option maxRecDepth 100000 in
theorem c_lcopy {w : Wd} {a n : Nat} {vi wk ct : Int32} {f : Nat → Int32} (h : LO w a vi wk ct f n) {b m : Nat} {x y z : Int32} {g : Nat → Int32} (hb : LO w b x y z g m) (hd : b + 4 ≤ a ∨ a + 4 ≤ b) : Wr mX1_copyFrom 2 [.ref a, .ref b] w (fun r' w' => r' = none ∧ LO w' a x y z g m ∧ fr a 4 w w') := by
  intro sz
  refine Ev.ofV [some (.ref a), some (.ref b)] (by decide) (Nat.le_of_ble_eq_true rfl) rfl rfl rfl ?_
  refine v_aload_n dX1_copyFrom_0 rfl ?_
  refine v_get 0 dX1_copyFrom_1 FTX1 (by decide) rfl fl_X1_12 h.1 rfl ?_
  refine v_aload_n dX1_copyFrom_4 rfl ?_
  refine v_get 0 dX1_copyFrom_5 FTX1 (by decide) rfl fl_X1_12 hb.1 rfl ?_
  refine v_wV1 oX6_copyFrom dX1_copyFrom_8 ml_X1_25 (c_copyFrom6 h.2 hb.2 (by omega)) h.2.at (by decide) (Nat.le_of_ble_eq_true rfl) (Nat.le_refl _) (Nat.le_refl _) (fun r' w1 hq => ?_)
  obtain ⟨rfl, q1, q2⟩ := hq
  refine v_aload_n dX1_copyFrom_11 rfl ?_
  refine v_aload_n dX1_copyFrom_12 rfl ?_
  refine v_get 1 dX1_copyFrom_13 FTX1 (by decide) rfl fl_X1_18 ((q2 _ (by omega)).trans hb.1) rfl ?_
  refine v_put 1 dX1_copyFrom_16 FTX1 (by decide) rfl fl_X1_18 ((q2 _ (by omega)).trans h.1) rfl rfl (Nat.le_of_ble_eq_true rfl) rfl ?_
  refine v_aload_n dX1_copyFrom_19 rfl ?_
  refine v_aload_n dX1_copyFrom_20 rfl ?_
  refine v_get 2 dX1_copyFrom_21 FTX1 (by decide) rfl fl_X1_29 ((wu_ne _ _ (by omega)).trans ((q2 _ (by omega)).trans hb.1)) rfl ?_
  refine v_put 2 dX1_copyFrom_24 FTX1 (by decide) rfl fl_X1_29 (wu_eq _ _ _) rfl rfl (Nat.le_of_ble_eq_true rfl) rfl ?_
  refine v_aload_n dX1_copyFrom_27 rfl ?_
  refine v_aload_n dX1_copyFrom_28 rfl ?_
  refine v_get 3 dX1_copyFrom_29 FTX1 (by decide) rfl fl_X1_32 ((wu_ne _ _ (by omega)).trans ((wu_ne _ _ (by omega)).trans ((q2 _ (by omega)).trans hb.1))) rfl ?_
  refine v_put 3 dX1_copyFrom_32 FTX1 (by decide) rfl fl_X1_32 (wu_eq _ _ _) rfl rfl (Nat.le_of_ble_eq_true rfl) rfl ?_
  refine v_ret dX1_copyFrom_35 rfl (Nat.le_refl _) (Nat.le_refl _) ?_
  exact ⟨rfl, rfl, ⟨wu_eq _ _ _, q1.fr (fun q h1 h2 => by rw [wu_ne _ _ (by omega), wu_ne _ _ (by omega), wu_ne _ _ (by omega)])⟩, (((q2.mono (by omega) (by omega)).wu _ (by omega) (by omega)).wu _ (by omega) (by omega)).wu _ (by omega) (by omega)⟩
set_option maxHeartbeats 2000000 in
set_option maxRecDepth 100000 in
theorem c_lcut {w : Wd} {a n : Nat} {vi wk ct : Int32} {f : Nat → Int32} (h : LO w a vi wk ct f n) (lim : Nat) (hl : 1 ≤ lim) (hl2 : lim < 100) : Wr mX1_cutTo 1 [.ref a, .int (nI lim)] w (fun r' w' => r' = some (.int (b2i (decide (lim < nw f n)))) ∧ LO w' a vi wk (if lim < nw f n then ct + nI 1 else ct) f (if lim < nw f n then beg f n lim - 1 else n) ∧ fr a 4 w w') := by
  intro sz
  refine Ev.ofV [some (.ref a), some (.int (nI lim))] (by decide) (Nat.le_of_ble_eq_true rfl) rfl rfl rfl ?_
  have hs := h.2.sz
  refine v_aload_n dX1_cutTo_0 rfl ?_
  refine v_get 0 dX1_cutTo_1 FTX1 (by decide) rfl fl_X1_12 h.1 rfl ?_
  refine v_get 3 dX1_cutTo_4 FTX6 (by decide) rfl fl_X1_22 h.2.at rfl ?_
  refine v_iload_n dX1_cutTo_7 rfl ?_
  refine v_icmp_gtN (tgt := 13) dX1_cutTo_8 (by decide) (by omega) (by omega) (fun b8 => ?_) (fun b8 => ?_)
  ·
    refine v_aload_n dX1_cutTo_13 rfl ?_
    refine v_get 0 dX1_cutTo_14 FTX1 (by decide) rfl fl_X1_12 h.1 rfl ?_
    refine v_iload_n dX1_cutTo_17 rfl ?_
    refine v_wV1 oX6_cutTo dX1_cutTo_18 ml_X1_35 (c_cutTo6 h.2 lim hl hl2) h.2.at (by decide) (Nat.le_of_ble_eq_true rfl) (Nat.le_refl _) (Nat.le_refl _) (fun r' w1 hq => ?_)
    obtain ⟨rfl, q1, q2⟩ := hq
    refine v_aload_n dX1_cutTo_21 rfl ?_
    refine v_dup dX1_cutTo_22 rfl ?_
    refine v_get 3 dX1_cutTo_23 FTX1 (by decide) rfl fl_X1_32 ((q2 _ (by omega)).trans h.1) rfl ?_
    refine v_iconst (v := nI 1) dX1_cutTo_26 (by decide) ?_
    refine v_iadd dX1_cutTo_27 ?_
    refine v_put 3 dX1_cutTo_28 FTX1 (by decide) rfl fl_X1_32 ((q2 _ (by omega)).trans h.1) rfl rfl (Nat.le_of_ble_eq_true rfl) rfl ?_
    refine v_iconst (v := nI 1) dX1_cutTo_31 (by decide) ?_
    refine v_zret dX1_cutTo_32 rfl (by decide) (Nat.le_refl _) (Nat.le_refl _) ?_
    exact ⟨rfl, by rw [decide_eq_true b8]; rfl, ⟨by rw [wu_eq, if_pos b8]; rfl, q1.fr (fun q h1 h2 => wu_ne _ _ (by omega))⟩, (q2.mono (by omega) (by omega)).wu _ (by omega) (by omega)⟩
  ·
    refine v_iconst (v := nI 0) dX1_cutTo_11 (by decide) ?_
    refine v_zret dX1_cutTo_12 rfl (by decide) (Nat.le_refl _) (Nat.le_refl _) ?_
    exact ⟨rfl, by rw [decide_eq_false b8]; rfl, by rw [if_neg b8, if_neg b8]; exact h, fr.rf _ _ _⟩
set_option maxHeartbeats 2000000 in
set_option maxRecDepth 100000 in
theorem c_ltold0 {w : Wd} {a n : Nat} {vi wk ct : Int32} {f : Nat → Int32} (h : LO w a vi wk ct f n) : Rd mX1_told 0 [.ref a, .int (nI 0)] w (some (.int (nI (nw f n)))) := by
  intro sz
  refine Ev.ofV [some (.ref a), some (.int (nI 0))] (by decide) (Nat.le_of_ble_eq_true rfl) rfl rfl rfl ?_
  refine v_iload_n dX1_told_0 rfl ?_
  refine v_tableIn (tgt := 32) (off := 31) dX1_told_1 (by decide) (by decide) (by decide) (by decide) ?_
  refine v_aload_n dX1_told_32 rfl ?_
  refine v_get 0 dX1_told_33 FTX1 (by decide) rfl fl_X1_12 h.1 rfl ?_
  refine v_get 3 dX1_told_36 FTX6 (by decide) rfl fl_X1_22 h.2.at rfl ?_
  refine v_iret dX1_told_39 rfl (Nat.le_refl _) (Nat.le_refl _) ?_
  exact ⟨rfl, rfl, rfl⟩
set_option maxHeartbeats 2000000 in
set_option maxRecDepth 100000 in
theorem c_ltold1 {w : Wd} {a n : Nat} {vi wk ct : Int32} {f : Nat → Int32} (h : LO w a vi wk ct f n) : Rd mX1_told 0 [.ref a, .int (nI 1)] w (some (.int (nI n))) := by
  intro sz
  refine Ev.ofV [some (.ref a), some (.int (nI 1))] (by decide) (Nat.le_of_ble_eq_true rfl) rfl rfl rfl ?_
  refine v_iload_n dX1_told_0 rfl ?_
  refine v_tableIn (tgt := 40) (off := 39) dX1_told_1 (by decide) (by decide) (by decide) (by decide) ?_
  refine v_aload_n dX1_told_40 rfl ?_
  refine v_get 0 dX1_told_41 FTX1 (by decide) rfl fl_X1_12 h.1 rfl ?_
  refine v_get 1 dX1_told_44 FTX6 (by decide) rfl fl_X1_39 h.2.at rfl ?_
  refine v_iret dX1_told_47 rfl (Nat.le_refl _) (Nat.le_refl _) ?_
  exact ⟨rfl, rfl, rfl⟩
set_option maxHeartbeats 2000000 in
set_option maxRecDepth 100000 in
theorem c_ltold2 {w : Wd} {a n : Nat} {vi wk ct : Int32} {f : Nat → Int32} (h : LO w a vi wk ct f n) : Rd mX1_told 0 [.ref a, .int (nI 2)] w (some (.int (vi))) := by
  intro sz
  refine Ev.ofV [some (.ref a), some (.int (nI 2))] (by decide) (Nat.le_of_ble_eq_true rfl) rfl rfl rfl ?_
  refine v_iload_n dX1_told_0 rfl ?_
  refine v_tableIn (tgt := 48) (off := 47) dX1_told_1 (by decide) (by decide) (by decide) (by decide) ?_
  refine v_aload_n dX1_told_48 rfl ?_
  refine v_get 1 dX1_told_49 FTX1 (by decide) rfl fl_X1_18 h.1 rfl ?_
  refine v_iret dX1_told_52 rfl (Nat.le_refl _) (Nat.le_refl _) ?_
  exact ⟨rfl, rfl, rfl⟩
set_option maxHeartbeats 2000000 in
set_option maxRecDepth 100000 in
theorem c_ltold3 {w : Wd} {a n : Nat} {vi wk ct : Int32} {f : Nat → Int32} (h : LO w a vi wk ct f n) : Rd mX1_told 0 [.ref a, .int (nI 3)] w (some (.int (wk))) := by
  intro sz
  refine Ev.ofV [some (.ref a), some (.int (nI 3))] (by decide) (Nat.le_of_ble_eq_true rfl) rfl rfl rfl ?_
  refine v_iload_n dX1_told_0 rfl ?_
  refine v_tableIn (tgt := 53) (off := 52) dX1_told_1 (by decide) (by decide) (by decide) (by decide) ?_
  refine v_aload_n dX1_told_53 rfl ?_
  refine v_get 2 dX1_told_54 FTX1 (by decide) rfl fl_X1_29 h.1 rfl ?_
  refine v_iret dX1_told_57 rfl (Nat.le_refl _) (Nat.le_refl _) ?_
  exact ⟨rfl, rfl, rfl⟩
set_option maxHeartbeats 2000000 in
set_option maxRecDepth 100000 in
theorem c_ltold4 {w : Wd} {a n : Nat} {vi wk ct : Int32} {f : Nat → Int32} (h : LO w a vi wk ct f n) : Rd mX1_told 0 [.ref a, .int (nI 4)] w (some (.int (ct))) := by
  intro sz
  refine Ev.ofV [some (.ref a), some (.int (nI 4))] (by decide) (Nat.le_of_ble_eq_true rfl) rfl rfl rfl ?_
  refine v_iload_n dX1_told_0 rfl ?_
  refine v_tableOut (tgt := 58) dX1_told_1 (by decide) (by decide) ?_
  refine v_aload_n dX1_told_58 rfl ?_
  refine v_get 3 dX1_told_59 FTX1 (by decide) rfl fl_X1_32 h.1 rfl ?_
  refine v_iret dX1_told_62 rfl (Nat.le_refl _) (Nat.le_refl _) ?_
  exact ⟨rfl, rfl, rfl⟩
set_option maxHeartbeats 2000000 in
set_option maxRecDepth 100000 in
theorem c_rbecome {w : Wd} {a n : Nat} {nu pl vi ag vt : Int32} {f : Nat → Int32} (h : RO w a nu pl vi ag vt f n) {b m : Nat} {g : Nat → Int32} (hb : WO w b g m) (hd : b + 3 ≤ a ∨ a + 4 ≤ b) (x y z : Int32) : Wr mX2_become 2 [.ref a, .int x, .int y, .int z, .ref b] w (fun r' w' => r' = none ∧ RO w' a x z y (nI 0) (nI 0) g m ∧ fr a 4 w w') := by
  intro sz
  refine Ev.ofV [some (.ref a), some (.int x), some (.int y), some (.int z), some (.ref b)] (by decide) (Nat.le_of_ble_eq_true rfl) rfl rfl rfl ?_
  refine v_aload_n dX2_become_0 rfl ?_
  refine v_get 0 dX2_become_1 FTX2 (by decide) rfl fl_X2_10 h.1 rfl ?_
  refine v_aload dX2_become_4 rfl ?_
  refine v_wV1 oX6_copyFrom dX2_become_6 ml_X2_16 (c_copyFrom6 h.2 hb (by omega)) h.2.at (by decide) (Nat.le_of_ble_eq_true rfl) (Nat.le_refl _) (Nat.le_refl _) (fun r' w1 hq => ?_)
  obtain ⟨rfl, q1, q2⟩ := hq
  refine v_aload_n dX2_become_9 rfl ?_
  refine v_iload_n dX2_become_10 rfl ?_
  refine v_put 1 dX2_become_11 FTX2 (by decide) rfl fl_X2_20 ((q2 _ (by omega)).trans h.1) rfl rfl (Nat.le_of_ble_eq_true rfl) rfl ?_
  refine v_aload_n dX2_become_14 rfl ?_
  refine v_iload_n dX2_become_15 rfl ?_
  refine v_put 2 dX2_become_16 FTX2 (by decide) rfl fl_X2_24 (wu_eq _ _ _) rfl rfl (Nat.le_of_ble_eq_true rfl) rfl ?_
  refine v_aload_n dX2_become_19 rfl ?_
  refine v_iload_n dX2_become_20 rfl ?_
  refine v_put 3 dX2_become_21 FTX2 (by decide) rfl fl_X2_27 (wu_eq _ _ _) rfl rfl (Nat.le_of_ble_eq_true rfl) rfl ?_
  refine v_aload_n dX2_become_24 rfl ?_
  refine v_iconst (v := nI 0) dX2_become_25 (by decide) ?_
  refine v_put 4 dX2_become_26 FTX2 (by decide) rfl fl_X2_30 (wu_eq _ _ _) rfl rfl (Nat.le_of_ble_eq_true rfl) rfl ?_
  refine v_aload_n dX2_become_29 rfl ?_
  refine v_iconst (v := nI 0) dX2_become_30 (by decide) ?_
  refine v_put 5 dX2_become_31 FTX2 (by decide) rfl fl_X2_33 (wu_eq _ _ _) rfl rfl (Nat.le_of_ble_eq_true rfl) rfl ?_
  refine v_ret dX2_become_34 rfl (Nat.le_refl _) (Nat.le_refl _) ?_
  exact ⟨rfl, rfl, ⟨wu_eq _ _ _, q1.fr (fun q h1 h2 => by rw [wu_ne _ _ (by omega), wu_ne _ _ (by omega), wu_ne _ _ (by omega), wu_ne _ _ (by omega), wu_ne _ _ (by omega)])⟩, (((((q2.mono (by omega) (by omega)).wu _ (by omega) (by omega)).wu _ (by omega) (by omega)).wu _ (by omega) (by omega)).wu _ (by omega) (by omega)).wu _ (by omega) (by omega)⟩
set_option maxHeartbeats 2000000 in
set_option maxRecDepth 100000 in
theorem c_rcopy {w : Wd} {a n : Nat} {nu pl vi ag vt : Int32} {f : Nat → Int32} (h : RO w a nu pl vi ag vt f n) {b m : Nat} {x y z u v : Int32} {g : Nat → Int32} (hb : RO w b x y z u v g m) (hd : b + 4 ≤ a ∨ a + 4 ≤ b) : Wr mX2_copyFrom 2 [.ref a, .ref b] w (fun r' w' => r' = none ∧ RO w' a x y z u v g m ∧ fr a 4 w w') := by
  intro sz
  refine Ev.ofV [some (.ref a), some (.ref b)] (by decide) (Nat.le_of_ble_eq_true rfl) rfl rfl rfl ?_
  refine v_aload_n dX2_copyFrom_0 rfl ?_
  refine v_get 0 dX2_copyFrom_1 FTX2 (by decide) rfl fl_X2_10 h.1 rfl ?_
  refine v_aload_n dX2_copyFrom_4 rfl ?_
  refine v_get 0 dX2_copyFrom_5 FTX2 (by decide) rfl fl_X2_10 hb.1 rfl ?_
  refine v_wV1 oX6_copyFrom dX2_copyFrom_8 ml_X2_16 (c_copyFrom6 h.2 hb.2 (by omega)) h.2.at (by decide) (Nat.le_of_ble_eq_true rfl) (Nat.le_refl _) (Nat.le_refl _) (fun r' w1 hq => ?_)
  obtain ⟨rfl, q1, q2⟩ := hq
  refine v_aload_n dX2_copyFrom_11 rfl ?_
  refine v_aload_n dX2_copyFrom_12 rfl ?_
  refine v_get 1 dX2_copyFrom_13 FTX2 (by decide) rfl fl_X2_20 ((q2 _ (by omega)).trans hb.1) rfl ?_
  refine v_put 1 dX2_copyFrom_16 FTX2 (by decide) rfl fl_X2_20 ((q2 _ (by omega)).trans h.1) rfl rfl (Nat.le_of_ble_eq_true rfl) rfl ?_
  refine v_aload_n dX2_copyFrom_19 rfl ?_
  refine v_aload_n dX2_copyFrom_20 rfl ?_
  refine v_get 2 dX2_copyFrom_21 FTX2 (by decide) rfl fl_X2_24 ((wu_ne _ _ (by omega)).trans ((q2 _ (by omega)).trans hb.1)) rfl ?_
  refine v_put 2 dX2_copyFrom_24 FTX2 (by decide) rfl fl_X2_24 (wu_eq _ _ _) rfl rfl (Nat.le_of_ble_eq_true rfl) rfl ?_
  refine v_aload_n dX2_copyFrom_27 rfl ?_
  refine v_aload_n dX2_copyFrom_28 rfl ?_
  refine v_get 3 dX2_copyFrom_29 FTX2 (by decide) rfl fl_X2_27 ((wu_ne _ _ (by omega)).trans ((wu_ne _ _ (by omega)).trans ((q2 _ (by omega)).trans hb.1))) rfl ?_
  refine v_put 3 dX2_copyFrom_32 FTX2 (by decide) rfl fl_X2_27 (wu_eq _ _ _) rfl rfl (Nat.le_of_ble_eq_true rfl) rfl ?_
  refine v_aload_n dX2_copyFrom_35 rfl ?_
  refine v_aload_n dX2_copyFrom_36 rfl ?_
  refine v_get 4 dX2_copyFrom_37 FTX2 (by decide) rfl fl_X2_30 ((wu_ne _ _ (by omega)).trans ((wu_ne _ _ (by omega)).trans ((wu_ne _ _ (by omega)).trans ((q2 _ (by omega)).trans hb.1)))) rfl ?_
  refine v_put 4 dX2_copyFrom_40 FTX2 (by decide) rfl fl_X2_30 (wu_eq _ _ _) rfl rfl (Nat.le_of_ble_eq_true rfl) rfl ?_
  refine v_aload_n dX2_copyFrom_43 rfl ?_
  refine v_aload_n dX2_copyFrom_44 rfl ?_
  refine v_get 5 dX2_copyFrom_45 FTX2 (by decide) rfl fl_X2_33 ((wu_ne _ _ (by omega)).trans ((wu_ne _ _ (by omega)).trans ((wu_ne _ _ (by omega)).trans ((wu_ne _ _ (by omega)).trans ((q2 _ (by omega)).trans hb.1))))) rfl ?_
  refine v_put 5 dX2_copyFrom_48 FTX2 (by decide) rfl fl_X2_33 (wu_eq _ _ _) rfl rfl (Nat.le_of_ble_eq_true rfl) rfl ?_
  refine v_ret dX2_copyFrom_51 rfl (Nat.le_refl _) (Nat.le_refl _) ?_
  exact ⟨rfl, rfl, ⟨wu_eq _ _ _, q1.fr (fun q h1 h2 => by rw [wu_ne _ _ (by omega), wu_ne _ _ (by omega), wu_ne _ _ (by omega), wu_ne _ _ (by omega), wu_ne _ _ (by omega)])⟩, (((((q2.mono (by omega) (by omega)).wu _ (by omega) (by omega)).wu _ (by omega) (by omega)).wu _ (by omega) (by omega)).wu _ (by omega) (by omega)).wu _ (by omega) (by omega)⟩
set_option maxHeartbeats 2000000 in
set_option maxRecDepth 100000 in
theorem c_hasVoteOf {w : Wd} {a n V : Nat} {nu pl vi ag : Int32} {f : Nat → Int32} (h : RO w a nu pl vi ag (nI V) f n) (hV : V < 1024) (v : Nat) (hv : v < 10) : Rd mX2_hasVoteOf 0 [.ref a, .int (nI v)] w (some (.int (b2i (V.testBit v)))) := by
  intro sz
  refine Ev.ofV [some (.ref a), some (.int (nI v))] (by decide) (Nat.le_of_ble_eq_true rfl) rfl rfl rfl ?_
  refine v_aload_n dX2_hasVoteOf_0 rfl ?_
  refine v_get 5 dX2_hasVoteOf_1 FTX2 (by decide) rfl fl_X2_33 h.1 rfl ?_
  refine v_iconst (v := nI 1) dX2_hasVoteOf_4 (by decide) ?_
  refine v_iload_n dX2_hasVoteOf_5 rfl ?_
  refine v_ishl dX2_hasVoteOf_6 ?_
  refine v_iand dX2_hasVoteOf_7 ?_
  refine v_if_eq (tgt := 15) dX2_hasVoteOf_8 (by decide) (fun b8 => ?_) (fun b8 => ?_)
  ·
    refine v_iconst (v := nI 0) dX2_hasVoteOf_15 (by decide) ?_
    refine v_zret dX2_hasVoteOf_16 rfl (by decide) (Nat.le_refl _) (Nat.le_refl _) ?_
    exact ⟨by rw [(bit_ok hV hv).mp b8]; rfl, rfl, rfl⟩
  ·
    refine v_iconst (v := nI 1) dX2_hasVoteOf_11 (by decide) ?_
    refine v_goto (tgt := 16) dX2_hasVoteOf_12 (by decide) ?_
    refine v_zret dX2_hasVoteOf_16 rfl (by decide) (Nat.le_refl _) (Nat.le_refl _) ?_
    have e : V.testBit v = true := by
      cases e : V.testBit v
      · exact absurd ((bit_ok hV hv).mpr e) b8
      · rfl
    exact ⟨by rw [e]; rfl, rfl, rfl⟩
set_option maxHeartbeats 2000000 in
set_option maxRecDepth 100000 in
theorem c_votes {w : Wd} {a n V : Nat} {nu pl vi ag : Int32} {f : Nat → Int32} (h : RO w a nu pl vi ag (nI V) f n) (hV : V < 1024) : Rd mX2_votes 1 [.ref a] w (some (.int (nI (pcn V)))) := by
  intro sz
  refine Ev.ofV [some (.ref a)] (by decide) (Nat.le_of_ble_eq_true rfl) rfl rfl rfl ?_
  refine v_aload_n dX2_votes_0 rfl ?_
  refine v_get 5 dX2_votes_1 FTX2 (by decide) rfl fl_X2_33 h.1 rfl ?_
  refine u_rS1 oJ6_bitCount_0f7a4 dX2_votes_4 ml_X2_36 (by have := c_bitCount (w := w) (nI V); rw [bc_ok hV] at this; exact this) (by decide) (Nat.le_of_ble_eq_true rfl) (Nat.le_refl _) (Nat.le_refl _) ?_
  refine v_iret dX2_votes_7 rfl (Nat.le_refl _) (Nat.le_refl _) ?_
  exact ⟨rfl, rfl, rfl⟩
set_option maxHeartbeats 2000000 in
set_option maxRecDepth 100000 in
theorem c_lower {w : Wd} {a n V : Nat} {nu pl vi ag : Int32} {f : Nat → Int32} (h : RO w a nu pl vi ag (nI V) f n) (hV : V < 1024) {b m U : Nat} {mu ql ui bg : Int32} {g : Nat → Int32} (hb : RO w b mu ql ui bg (nI U) g m) (hU : U < 1024) : Rd mX2_hasMoreVotesOrLowerNumber 2 [.ref a, .ref b] w (some (.int (b2i (decide (pcn U < pcn V) || (decide (pcn V = pcn U) && decide (nu < mu)))))) := by
  intro sz
  refine Ev.ofV [some (.ref a), some (.ref b), none, none] (by decide) (Nat.le_of_ble_eq_true rfl) rfl rfl rfl ?_
  have p1 := pcn_le V
  have p2 := pcn_le U
  refine v_aload_n dX2_hasMoreVotesOrLowerNumber_0 rfl ?_
  refine u_rV0 oX2_votes dX2_hasMoreVotesOrLowerNumber_1 ml_X2_42 (c_votes h hV) h.1 (by decide) (Nat.le_of_ble_eq_true rfl) (Nat.le_refl _) (Nat.le_refl _) ?_
  refine v_istore_n dX2_hasMoreVotesOrLowerNumber_4 (by decide) rfl ?_
  refine v_aload_n dX2_hasMoreVotesOrLowerNumber_5 rfl ?_
  refine u_rV0 oX2_votes dX2_hasMoreVotesOrLowerNumber_6 ml_X2_42 (c_votes hb hU) hb.1 (by decide) (Nat.le_of_ble_eq_true rfl) (Nat.le_refl _) (Nat.le_refl _) ?_
  refine v_istore_n dX2_hasMoreVotesOrLowerNumber_9 (by decide) rfl ?_
  refine v_iload_n dX2_hasMoreVotesOrLowerNumber_10 rfl ?_
  refine v_iload_n dX2_hasMoreVotesOrLowerNumber_11 rfl ?_
  refine v_icmp_gtN (tgt := 31) dX2_hasMoreVotesOrLowerNumber_12 (by decide) (by omega) (by omega) (fun b12 => ?_) (fun b12 => ?_)
  ·
    refine v_iconst (v := nI 1) dX2_hasMoreVotesOrLowerNumber_31 (by decide) ?_
    refine v_goto (tgt := 36) dX2_hasMoreVotesOrLowerNumber_32 (by decide) ?_
    refine v_zret dX2_hasMoreVotesOrLowerNumber_36 rfl (by decide) (Nat.le_refl _) (Nat.le_refl _) ?_
    exact ⟨by rw [decide_eq_true b12]; rfl, rfl, rfl⟩
  ·
    refine v_iload_n dX2_hasMoreVotesOrLowerNumber_15 rfl ?_
    refine v_iload_n dX2_hasMoreVotesOrLowerNumber_16 rfl ?_
    refine v_icmp_neN (tgt := 35) dX2_hasMoreVotesOrLowerNumber_17 (by decide) (by omega) (by omega) (fun b17 => ?_) (fun b17 => ?_)
    ·
      refine v_iconst (v := nI 0) dX2_hasMoreVotesOrLowerNumber_35 (by decide) ?_
      refine v_zret dX2_hasMoreVotesOrLowerNumber_36 rfl (by decide) (Nat.le_refl _) (Nat.le_refl _) ?_
      exact ⟨by rw [decide_eq_false (show ¬ pcn U < pcn V by omega), decide_eq_false b17]; rfl, rfl, rfl⟩
    ·
      refine v_aload_n dX2_hasMoreVotesOrLowerNumber_20 rfl ?_
      refine v_get 1 dX2_hasMoreVotesOrLowerNumber_21 FTX2 (by decide) rfl fl_X2_20 h.1 rfl ?_
      refine v_aload_n dX2_hasMoreVotesOrLowerNumber_24 rfl ?_
      refine v_get 1 dX2_hasMoreVotesOrLowerNumber_25 FTX2 (by decide) rfl fl_X2_20 hb.1 rfl ?_
      refine v_icmp_ge (tgt := 35) dX2_hasMoreVotesOrLowerNumber_28 (by decide) (fun b28 => ?_) (fun b28 => ?_)
      ·
        refine v_iconst (v := nI 0) dX2_hasMoreVotesOrLowerNumber_35 (by decide) ?_
        refine v_zret dX2_hasMoreVotesOrLowerNumber_36 rfl (by decide) (Nat.le_refl _) (Nat.le_refl _) ?_
        exact ⟨by rw [decide_eq_false (show ¬ pcn U < pcn V by omega), decide_eq_false (show ¬ nu < mu from Int32.not_lt.mpr b28), Bool.and_false]; rfl, rfl, rfl⟩
      ·
        refine v_iconst (v := nI 1) dX2_hasMoreVotesOrLowerNumber_31 (by decide) ?_
        refine v_goto (tgt := 36) dX2_hasMoreVotesOrLowerNumber_32 (by decide) ?_
        refine v_zret dX2_hasMoreVotesOrLowerNumber_36 rfl (by decide) (Nat.le_refl _) (Nat.le_refl _) ?_
        exact ⟨by rw [decide_eq_true b17, decide_eq_true (Int32.not_le.mp b28), Bool.and_self, Bool.or_true]; rfl, rfl, rfl⟩
set_option maxHeartbeats 2000000 in
set_option maxRecDepth 100000 in
theorem c_fewer {w : Wd} {a n V : Nat} {nu pl vi ag : Int32} {f : Nat → Int32} (h : RO w a nu pl vi ag (nI V) f n) (hV : V < 1024) {b m U : Nat} {mu ql ui bg : Int32} {g : Nat → Int32} (hb : RO w b mu ql ui bg (nI U) g m) (hU : U < 1024) : Rd mX2_hasMoreVotesOrFewerWords 2 [.ref a, .ref b] w (some (.int (b2i (decide (pcn U < pcn V) || (decide (pcn V = pcn U) && decide (nw f n < nw g m)))))) := by
  intro sz
  refine Ev.ofV [some (.ref a), some (.ref b), none, none] (by decide) (Nat.le_of_ble_eq_true rfl) rfl rfl rfl ?_
  have p1 := pcn_le V
  have p2 := pcn_le U
  have hs1 := h.2.sz
  have hs2 := hb.2.sz
  refine v_aload_n dX2_hasMoreVotesOrFewerWords_0 rfl ?_
  refine u_rV0 oX2_votes dX2_hasMoreVotesOrFewerWords_1 ml_X2_42 (c_votes h hV) h.1 (by decide) (Nat.le_of_ble_eq_true rfl) (Nat.le_refl _) (Nat.le_refl _) ?_
  refine v_istore_n dX2_hasMoreVotesOrFewerWords_4 (by decide) rfl ?_
  refine v_aload_n dX2_hasMoreVotesOrFewerWords_5 rfl ?_
  refine u_rV0 oX2_votes dX2_hasMoreVotesOrFewerWords_6 ml_X2_42 (c_votes hb hU) hb.1 (by decide) (Nat.le_of_ble_eq_true rfl) (Nat.le_refl _) (Nat.le_refl _) ?_
  refine v_istore_n dX2_hasMoreVotesOrFewerWords_9 (by decide) rfl ?_
  refine v_iload_n dX2_hasMoreVotesOrFewerWords_10 rfl ?_
  refine v_iload_n dX2_hasMoreVotesOrFewerWords_11 rfl ?_
  refine v_icmp_gtN (tgt := 37) dX2_hasMoreVotesOrFewerWords_12 (by decide) (by omega) (by omega) (fun b12 => ?_) (fun b12 => ?_)
  ·
    refine v_iconst (v := nI 1) dX2_hasMoreVotesOrFewerWords_37 (by decide) ?_
    refine v_goto (tgt := 42) dX2_hasMoreVotesOrFewerWords_38 (by decide) ?_
    refine v_zret dX2_hasMoreVotesOrFewerWords_42 rfl (by decide) (Nat.le_refl _) (Nat.le_refl _) ?_
    exact ⟨by rw [decide_eq_true b12]; rfl, rfl, rfl⟩
  ·
    refine v_iload_n dX2_hasMoreVotesOrFewerWords_15 rfl ?_
    refine v_iload_n dX2_hasMoreVotesOrFewerWords_16 rfl ?_
    refine v_icmp_neN (tgt := 41) dX2_hasMoreVotesOrFewerWords_17 (by decide) (by omega) (by omega) (fun b17 => ?_) (fun b17 => ?_)
    ·
      refine v_iconst (v := nI 0) dX2_hasMoreVotesOrFewerWords_41 (by decide) ?_
      refine v_zret dX2_hasMoreVotesOrFewerWords_42 rfl (by decide) (Nat.le_refl _) (Nat.le_refl _) ?_
      exact ⟨by rw [decide_eq_false (show ¬ pcn U < pcn V by omega), decide_eq_false b17]; rfl, rfl, rfl⟩
    ·
      refine v_aload_n dX2_hasMoreVotesOrFewerWords_20 rfl ?_
      refine v_get 0 dX2_hasMoreVotesOrFewerWords_21 FTX2 (by decide) rfl fl_X2_10 h.1 rfl ?_
      refine v_get 3 dX2_hasMoreVotesOrFewerWords_24 FTX6 (by decide) rfl fl_X2_46 h.2.at rfl ?_
      refine v_aload_n dX2_hasMoreVotesOrFewerWords_27 rfl ?_
      refine v_get 0 dX2_hasMoreVotesOrFewerWords_28 FTX2 (by decide) rfl fl_X2_10 hb.1 rfl ?_
      refine v_get 3 dX2_hasMoreVotesOrFewerWords_31 FTX6 (by decide) rfl fl_X2_46 hb.2.at rfl ?_
      refine v_icmp_geN (tgt := 41) dX2_hasMoreVotesOrFewerWords_34 (by decide) (by omega) (by omega) (fun b34 => ?_) (fun b34 => ?_)
      ·
        refine v_iconst (v := nI 0) dX2_hasMoreVotesOrFewerWords_41 (by decide) ?_
        refine v_zret dX2_hasMoreVotesOrFewerWords_42 rfl (by decide) (Nat.le_refl _) (Nat.le_refl _) ?_
        exact ⟨by rw [decide_eq_false (show ¬ pcn U < pcn V by omega), decide_eq_false (show ¬ nw f n < nw g m by omega), Bool.and_false]; rfl, rfl, rfl⟩
      ·
        refine v_iconst (v := nI 1) dX2_hasMoreVotesOrFewerWords_37 (by decide) ?_
        refine v_goto (tgt := 42) dX2_hasMoreVotesOrFewerWords_38 (by decide) ?_
        refine v_zret dX2_hasMoreVotesOrFewerWords_42 rfl (by decide) (Nat.le_refl _) (Nat.le_refl _) ?_
        exact ⟨by rw [decide_eq_true b17, decide_eq_true (show nw f n < nw g m by omega), Bool.and_self, Bool.or_true]; rfl, rfl, rfl⟩
theorem hnX1 : ∀ j, j < 4 → defaultValue (tyX1 j) = vp_V [.null, .int 0, .int 0, .int 0] j := by decide
theorem hnX2 : ∀ j, j < 6 → defaultValue (tyX2 j) = vp_V [.null, .int 0, .int 0, .int 0, .int 0, .int 0] j := by decide
set_option maxHeartbeats 2000000 in
set_option maxRecDepth 100000 in
theorem c_X1init {w : Wd} {a sz : Nat} (hsz : sz = a + 1) (h0 : w a = some (ob 1 [.null, .int 0, .int 0, .int 0])) : Ev mX1_init 2 [.ref a] w sz 3 95 (fun r' w' zz => r' = none ∧ zz = a + 4 ∧ (∀ g, LO w' a (-5) (nI 0) (nI 0) g 0) ∧ fr a 4 w w') := by
  refine Ev.ofV [some (.ref a)] (by decide) (Nat.le_of_ble_eq_true rfl) rfl rfl rfl ?_
  refine v_aload_n dX1_init_0 rfl ?_
  refine v_objInit dX1_init_1 ml_X1_3 (by decide) (Nat.le_of_ble_eq_true rfl) ?_
  refine v_aload_n dX1_init_4 rfl ?_
  refine v_new (fs := [.null, .int 0, .null, .int 0]) dX1_init_5 FTX6 cl_X1_9 insX6 iniX6 hnX6 (by omega) (by omega) ?_
  refine v_dup dX1_init_8 rfl ?_
  refine v_callIN (As := []) oX6_init dX1_init_9 (by decide) (c_X6init rfl (wu_eq _ _ _)) rfl (by decide) (Nat.le_of_ble_eq_true rfl) (by omega) (by omega) (fun r' w1 zz1 hq => ?_)
  obtain ⟨rfl, rfl, q1, q2⟩ := hq
  refine v_putF 0 dX1_init_12 FTX1 (by decide) rfl fl_X1_12 ((q2 _ (by omega)).trans ((wu_ne _ _ (by omega)).trans h0)) rfl rfl (Nat.le_of_ble_eq_true rfl) rfl rfl rfl ?_
  refine v_aload_n dX1_init_15 rfl ?_
  refine v_bipush (v := -5) dX1_init_16 (by decide) ?_
  refine v_put 1 dX1_init_18 FTX1 (by decide) rfl fl_X1_18 (wu_eq _ _ _) rfl rfl (Nat.le_of_ble_eq_true rfl) rfl ?_
  refine v_ret dX1_init_21 rfl (by omega) (by omega) ?_
  exact ⟨rfl, by omega, fun g => ⟨by rw [wu_eq, hsz]; rfl, by subst hsz; exact (q1 g).fr (fun q h1 h2 => by rw [wu_ne _ _ (by omega), wu_ne _ _ (by omega)])⟩, fun q hq => by rw [wu_ne _ _ (by omega), wu_ne _ _ (by omega), q2 q (by omega), wu_ne _ _ (by omega)]⟩
set_option maxHeartbeats 2000000 in
set_option maxRecDepth 100000 in
theorem c_X2init {w : Wd} {a sz : Nat} (hsz : sz = a + 1) (h0 : w a = some (ob 2 [.null, .int 0, .int 0, .int 0, .int 0, .int 0])) : Ev mX2_init 2 [.ref a] w sz 3 95 (fun r' w' zz => r' = none ∧ zz = a + 4 ∧ (∀ g, RO w' a 0 0 0 0 0 g 0) ∧ fr a 4 w w') := by
  refine Ev.ofV [some (.ref a)] (by decide) (Nat.le_of_ble_eq_true rfl) rfl rfl rfl ?_
  refine v_aload_n dX2_init_0 rfl ?_
  refine v_objInit dX2_init_1 ml_X2_1 (by decide) (Nat.le_of_ble_eq_true rfl) ?_
  refine v_aload_n dX2_init_4 rfl ?_
  refine v_new (fs := [.null, .int 0, .null, .int 0]) dX2_init_5 FTX6 cl_X2_7 insX6 iniX6 hnX6 (by omega) (by omega) ?_
  refine v_dup dX2_init_8 rfl ?_
  refine v_callIN (As := []) oX6_init dX2_init_9 (by decide) (c_X6init rfl (wu_eq _ _ _)) rfl (by decide) (Nat.le_of_ble_eq_true rfl) (by omega) (by omega) (fun r' w1 zz1 hq => ?_)
  obtain ⟨rfl, rfl, q1, q2⟩ := hq
  refine v_putF 0 dX2_init_12 FTX2 (by decide) rfl fl_X2_10 ((q2 _ (by omega)).trans ((wu_ne _ _ (by omega)).trans h0)) rfl rfl (Nat.le_of_ble_eq_true rfl) rfl rfl rfl ?_
  refine v_ret dX2_init_15 rfl (by omega) (by omega) ?_
  exact ⟨rfl, by omega, fun g => ⟨by rw [wu_eq, hsz]; rfl, by subst hsz; exact (q1 g).fr (fun q h1 h2 => by rw [wu_ne _ _ (by omega)])⟩, fun q hq => by rw [wu_ne _ _ (by omega), q2 q (by omega), wu_ne _ _ (by omega)]⟩
