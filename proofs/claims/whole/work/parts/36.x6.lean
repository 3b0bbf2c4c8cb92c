section VLW
variable {mi : MI} {d mc ms : Nat} {Po : Option Value → Wd → Nat → Prop} {w : Wd} {sz cells slots : Nat} {L : List (Option Value)} {stk : List Value} {pc : Nat}
theorem v_ldc_w {idx : Nat} {v : Int32} (hd : decode mi.2.1 pc = .ok (.ldc_w idx, 3)) (hc : Cond.constant mi.1.cls idx v ∈ lw_tb) (k : V mi d mc ms Po w sz cells slots L (.int v :: stk) (pc + 3)) : V mi d mc ms Po w sz cells slots L (stk) (pc) := by
  intro p l e s m args below meth c lo D cy H locs ls C hw hz hS hl
  exact lv_ldcw C.1 C.2.1 C.2.2.2.2.1 (C.2.2.2.2.2.1 _ (List.mem_cons_of_mem _ hc)) hd (k p l e s m args below meth c lo D cy H locs ls C hw hz hS hl)
theorem v_eqc {cells' slots' : Nat} (h1 : cells' = cells) (h2 : slots' = slots) (k : V mi d mc ms Po w sz cells' slots' L stk pc) : V mi d mc ms Po w sz cells slots L stk pc := h1 ▸ h2 ▸ k
theorem v_eqz {sz' : Nat} (h1 : sz' = sz) (k : V mi d mc ms Po w sz' cells slots L stk pc) : V mi d mc ms Po w sz cells slots L stk pc := h1 ▸ k
theorem v_mmaxN {idx x y : Nat} (hd : decode mi.2.1 pc = .ok (.invokestatic idx, 3)) (hlink : Cond.methodLink mi.1.cls idx Lib.Math.max.name ∈ lw_tb) (hd1 : 1 ≤ d) (hst : (stk.map fun v => v.category).sum ≤ 8) (hc : cells ≤ mc) (hs : slots ≤ ms) (hx : x < 2147483648) (hy : y < 2147483648) (kk : V mi d mc ms Po w sz cells slots L (.int (nI (if x < y then y else x)) :: stk) (pc + 3)) : V mi d mc ms Po w sz cells slots L (.int (nI y) :: .int (nI x) :: stk) pc := by
  refine v_mmax hd hlink hd1 hst hc hs (v_eqs ?_ kk)
  by_cases h : x < y
  · rw [if_pos h, if_pos ((nI_ltN hx hy).mpr h)]
  · rw [if_neg h, if_neg (fun z => h ((nI_ltN hx hy).mp z))]
end VLW
theorem told_F1 {f g : Nat → Int32} {n m : Nat} (h : ¬ n = m) : told f g n m = false := by
  unfold told
  rw [decide_eq_false h]
  rfl
theorem told_T {f g : Nat → Int32} {n m : Nat} (h : n = m) (h2 : al (fun k => f k == g k) m = true) : told f g n m = true := by
  unfold told
  rw [decide_eq_true h, h2]
  rfl
theorem told_F {f g : Nat → Int32} {n m k : Nat} (hk : k < m) (h : ¬ f k = g k) : told f g n m = false := by
  unfold told
  have : al (fun k => f k == g k) m = false := by
    cases e : al (fun k => f k == g k) m
    · rfl
    · have := (al_iff _ _).mp e k hk
      exact absurd (by simpa using this) h
  rw [this]
  simp
theorem al_S {p : Nat → Bool} {k : Nat} (h : al p k = true) (h2 : p k = true) : al p (k + 1) = true := by
  simp only [al, h, h2, Bool.and_self]
def bgn (f : Nat → Int32) (k : Nat) : Bool := (k == 0) || bl f (k - 1)
theorem cnt_bgn (f : Nat → Int32) : ∀ k, cnt (bgn f) (k + 1) = 1 + cnt (bl f) k
  | 0 => by simp [cnt, bgn]
  | k + 1 => by
    have h := cnt_bgn f k
    have e : bgn f (k + 1) = bl f k := by simp [bgn]
    rw [show cnt (bgn f) (k + 1 + 1) = cnt (bgn f) (k + 1) + (if bgn f (k + 1) = true then 1 else 0) from rfl, e, h]
    simp only [cnt]
    omega
theorem bgn_nw {f : Nat → Int32} {n : Nat} (h : okT f n) : cnt (bgn f) n = nw f n := by
  obtain ⟨k, rfl⟩ : ∃ k, n = k + 1 := ⟨n - 1, by have := h.1; omega⟩
  have h1 := okT_nb h
  rw [Nat.add_sub_cancel] at h1
  rw [cnt_bgn]
  unfold nw
  rw [if_pos (by omega), cnt_S0 h1]
theorem bgn_beg {f : Nat → Int32} {n i : Nat} (hi : i < n) (h : bgn f i = true) : beg f n (cnt (bgn f) i) = i := by
  have e : cnt (bgn f) i = cnt (bl f) i := by
    cases i with
    | zero => rfl
    | succ i =>
      have : bl f i = true := by simpa [bgn] using h
      rw [cnt_bgn, cnt_S this]
      omega
  rw [e]
  refine beg_at (by omega) ?_
  unfold bgn at h
  simpa using h
def us (x : Int32) (k : Nat) : Int32 := (x.toUInt32 >>> ((nI k).toUInt32 &&& Int32.toUInt32 31)).toInt32
def bi1 (x : Int32) : Int32 := x - (us x 1 &&& 1431655765)
def bi2 (x : Int32) : Int32 := (x &&& 858993459) + (us x 2 &&& 858993459)
def bi3 (x : Int32) : Int32 := (x + us x 4) &&& 252645135
def bi4 (x : Int32) : Int32 := x + us x 8
def bi5 (x : Int32) : Int32 := x + us x 16
def bcI (x : Int32) : Int32 := bi5 (bi4 (bi3 (bi2 (bi1 x)))) &&& nI 63
def pcn (m : Nat) : Nat := cnt (fun v => m.testBit v) 10
theorem bc_ok {m : Nat} (h : m < 1024) : bcI (nI m) = nI (pcn m) := by
  have : ∀ m : Fin 1024, bcI (nI m.val) = nI (pcn m.val) := by decide +kernel
  exact this ⟨m, h⟩
set_option maxHeartbeats 2000000 in
set_option maxRecDepth 100000 in
theorem c_bitCount {w : Wd} (x : Int32) : Rd mJ6_bitCount_0f7a4 0 [.int x] w (some (.int (bcI x))) := by
  intro sz
  refine Ev.ofV [some (.int x)] (by decide) (Nat.le_of_ble_eq_true rfl) rfl rfl rfl ?_
  refine v_iload_n dJ6_bitCount_0f7a4_0 rfl ?_
  refine v_iload_n dJ6_bitCount_0f7a4_1 rfl ?_
  refine v_iconst (v := nI 1) dJ6_bitCount_0f7a4_2 (by decide) ?_
  refine v_iushr dJ6_bitCount_0f7a4_3 rfl ?_
  refine v_ldc_w dJ6_bitCount_0f7a4_4 ct_J6_265 ?_
  refine v_iand dJ6_bitCount_0f7a4_7 ?_
  refine v_isub dJ6_bitCount_0f7a4_8 ?_
  refine v_istore_n dJ6_bitCount_0f7a4_9 (by decide) rfl ?_
  refine v_iload_n dJ6_bitCount_0f7a4_10 rfl ?_
  refine v_ldc_w dJ6_bitCount_0f7a4_11 ct_J6_266 ?_
  refine v_iand dJ6_bitCount_0f7a4_14 ?_
  refine v_iload_n dJ6_bitCount_0f7a4_15 rfl ?_
  refine v_iconst (v := nI 2) dJ6_bitCount_0f7a4_16 (by decide) ?_
  refine v_iushr dJ6_bitCount_0f7a4_17 rfl ?_
  refine v_ldc_w dJ6_bitCount_0f7a4_18 ct_J6_266 ?_
  refine v_iand dJ6_bitCount_0f7a4_21 ?_
  refine v_iadd dJ6_bitCount_0f7a4_22 ?_
  refine v_istore_n dJ6_bitCount_0f7a4_23 (by decide) rfl ?_
  refine v_iload_n dJ6_bitCount_0f7a4_24 rfl ?_
  refine v_iload_n dJ6_bitCount_0f7a4_25 rfl ?_
  refine v_iconst (v := nI 4) dJ6_bitCount_0f7a4_26 (by decide) ?_
  refine v_iushr dJ6_bitCount_0f7a4_27 rfl ?_
  refine v_iadd dJ6_bitCount_0f7a4_28 ?_
  refine v_ldc_w dJ6_bitCount_0f7a4_29 ct_J6_267 ?_
  refine v_iand dJ6_bitCount_0f7a4_32 ?_
  refine v_istore_n dJ6_bitCount_0f7a4_33 (by decide) rfl ?_
  refine v_iload_n dJ6_bitCount_0f7a4_34 rfl ?_
  refine v_iload_n dJ6_bitCount_0f7a4_35 rfl ?_
  refine v_bipush (v := nI 8) dJ6_bitCount_0f7a4_36 (by decide) ?_
  refine v_iushr dJ6_bitCount_0f7a4_38 rfl ?_
  refine v_iadd dJ6_bitCount_0f7a4_39 ?_
  refine v_istore_n dJ6_bitCount_0f7a4_40 (by decide) rfl ?_
  refine v_iload_n dJ6_bitCount_0f7a4_41 rfl ?_
  refine v_iload_n dJ6_bitCount_0f7a4_42 rfl ?_
  refine v_bipush (v := nI 16) dJ6_bitCount_0f7a4_43 (by decide) ?_
  refine v_iushr dJ6_bitCount_0f7a4_45 rfl ?_
  refine v_iadd dJ6_bitCount_0f7a4_46 ?_
  refine v_istore_n dJ6_bitCount_0f7a4_47 (by decide) rfl ?_
  refine v_iload_n dJ6_bitCount_0f7a4_48 rfl ?_
  refine v_bipush (v := nI 63) dJ6_bitCount_0f7a4_49 (by decide) ?_
  refine v_iand dJ6_bitCount_0f7a4_51 ?_
  refine v_iret dJ6_bitCount_0f7a4_52 rfl (Nat.le_refl _) (Nat.le_refl _) ?_
  exact ⟨rfl, rfl, rfl⟩
def flF (f : Nat → Int32) (v : Int32) (i : Nat) : Nat → Int32 := fun k => if k < i then v else f k
theorem flF_0 (f : Nat → Int32) (v : Int32) : flF f v 0 = f := by
  funext k
  simp [flF]
theorem flF_S (f : Nat → Int32) (v : Int32) (i : Nat) : upd (flF f v i) i v = flF f v (i + 1) := by
  funext k
  simp only [upd, flF]
  by_cases e : k = i
  · subst e
    simp
  · rw [if_neg e]
    by_cases h : k < i
    · rw [if_pos h, if_pos (by omega)]
    · rw [if_neg h, if_neg (by omega)]
set_option maxHeartbeats 2000000 in
set_option maxRecDepth 100000 in
theorem c_fill {w : Wd} {a n : Nat} {f : Nat → Int32} (h : w a = some (ia 1 n f)) (hn : n ≤ 100000) (v : Int32) : Wr mJ7_fill_53178 0 [.ref a, .int v] w (fun r' w' => r' = none ∧ w' = wu w a (ia 1 n (flF f v n))) := by
  intro sz
  refine Ev.ofV [some (.ref a), some (.int v), none, none] (by decide) (Nat.le_of_ble_eq_true rfl) rfl rfl rfl ?_
  refine v_iconst (v := nI 0) dJ7_fill_53178_0 (by decide) ?_
  refine v_istore_n dJ7_fill_53178_1 (by decide) rfl ?_
  refine v_aload_n dJ7_fill_53178_2 rfl ?_
  refine v_alenI (by decide) dJ7_fill_53178_3 h ?_
  refine v_istore_n dJ7_fill_53178_4 (by decide) rfl ?_
  have LP5 : ∀ i, i ≤ n → V mJ7_fill_53178 0 0 0 (fun r' w' zz => zz = sz ∧ (r' = none ∧ w' = wu w a (ia 1 n (flF f v n)))) (wu w a (ia 1 n (flF f v i))) (sz) (0) (0) [some (.ref a), some (.int v), some (.int (nI i)), some (.int (nI n))] [] 5 := by
    refine dn (fun i hi ih => ?_)
    refine v_iload_n dJ7_fill_53178_5 rfl ?_
    refine v_iload_n dJ7_fill_53178_6 rfl ?_
    refine v_icmp_geN (tgt := 20) dJ7_fill_53178_7 (by decide) (by omega) (by omega) (fun b7 => ?_) (fun b7 => ?_)
    ·
      have e1 : i = n := by omega
      subst e1
      refine v_ret dJ7_fill_53178_20 rfl (Nat.le_refl _) (Nat.le_refl _) ?_
      exact ⟨rfl, rfl, rfl⟩
    ·
      refine v_aload_n dJ7_fill_53178_10 rfl ?_
      refine v_iload_n dJ7_fill_53178_11 rfl ?_
      refine v_iload_n dJ7_fill_53178_12 rfl ?_
      refine v_iast _ dJ7_fill_53178_13 (wu_eq _ _ _) rfl (by omega) (by omega) ?_
      refine v_eqw (show wu w a (ia 1 n (flF f v (i + 1))) = _ by rw [wu_wu, flF_S]) ?_
      refine v_iincN dJ7_fill_53178_14 (by decide) rfl rfl rfl ?_
      refine v_goto (tgt := 5) dJ7_fill_53178_17 (by decide) ?_
      exact ih (by omega)
  refine v_eqw (show wu w a (ia 1 n (flF f v 0)) = w by rw [flF_0]; exact wu_self h) ?_
  exact LP5 0 (Nat.zero_le _)
set_option maxHeartbeats 2000000 in
set_option maxRecDepth 100000 in
theorem c_isLike {w : Wd} {a b n m : Nat} {f g : Nat → Int32} (h1 : WO w a f n) (h2 : WO w b g m) : Rd mX6_isLike 0 [.ref a, .ref b] w (some (.int (b2i (told f g n m)))) := by
  intro sz
  refine Ev.ofV [some (.ref a), some (.ref b), none] (by decide) (Nat.le_of_ble_eq_true rfl) rfl rfl rfl ?_
  obtain ⟨aL, as, a1, a2, a3, a4, a5, a6, a7⟩ := h1
  obtain ⟨pL, ps, p1, p2, p3, p4, p5, p6, p7⟩ := h2
  refine v_aload_n dX6_isLike_0 rfl ?_
  refine v_get 1 dX6_isLike_1 FTX6 (by decide) rfl fl_X6_19 a1 rfl ?_
  refine v_aload_n dX6_isLike_4 rfl ?_
  refine v_get 1 dX6_isLike_5 FTX6 (by decide) rfl fl_X6_19 p1 rfl ?_
  refine v_icmp_eqN (tgt := 13) dX6_isLike_8 (by decide) (by omega) (by omega) (fun b8 => ?_) (fun b8 => ?_)
  ·
    refine v_iconst (v := nI 0) dX6_isLike_13 (by decide) ?_
    refine v_istore_n dX6_isLike_14 (by decide) rfl ?_
    have LP15 : ∀ i, i ≤ n → al (fun k => f k == g k) i = true → V mX6_isLike 0 0 0 (fun r' w' zz => r' = some (.int (b2i (told f g n m))) ∧ w' = w ∧ zz = sz) (w) (sz) (0) (0) [some (.ref a), some (.ref b), some (.int (nI i))] [] 15 := by
      refine dn (fun i hi ih => ?_)
      intro hal
      refine v_iload_n dX6_isLike_15 rfl ?_
      refine v_aload_n dX6_isLike_16 rfl ?_
      refine v_get 1 dX6_isLike_17 FTX6 (by decide) rfl fl_X6_19 a1 rfl ?_
      refine v_icmp_geN (tgt := 46) dX6_isLike_20 (by decide) (by omega) (by omega) (fun b20 => ?_) (fun b20 => ?_)
      ·
        refine v_iconst (v := nI 1) dX6_isLike_46 (by decide) ?_
        refine v_zret dX6_isLike_47 rfl (by decide) (Nat.le_refl _) (Nat.le_refl _) ?_
        exact ⟨by rw [told_T b8 (by rw [show m = i by omega]; exact hal)]; rfl, rfl, rfl⟩
      ·
        refine v_aload_n dX6_isLike_23 rfl ?_
        refine v_get 0 dX6_isLike_24 FTX6 (by decide) rfl fl_X6_9 a1 rfl ?_
        refine v_iload_n dX6_isLike_27 rfl ?_
        refine v_caldE _ dX6_isLike_28 a2 rfl (by omega) (by decide) (a6 i (by omega)) ?_
        refine v_aload_n dX6_isLike_29 rfl ?_
        refine v_get 0 dX6_isLike_30 FTX6 (by decide) rfl fl_X6_9 p1 rfl ?_
        refine v_iload_n dX6_isLike_33 rfl ?_
        refine v_caldE _ dX6_isLike_34 p2 rfl (by omega) (by decide) (p6 i (by omega)) ?_
        refine v_icmp_eq (tgt := 40) dX6_isLike_35 (by decide) (fun b35 => ?_) (fun b35 => ?_)
        ·
          refine v_iincN dX6_isLike_40 (by decide) rfl rfl rfl ?_
          refine v_goto (tgt := 15) dX6_isLike_43 (by decide) ?_
          exact ih (by omega) (al_S hal (by simpa using b35))
        ·
          refine v_iconst (v := nI 0) dX6_isLike_38 (by decide) ?_
          refine v_zret dX6_isLike_39 rfl (by decide) (Nat.le_refl _) (Nat.le_refl _) ?_
          exact ⟨by rw [told_F (k := i) (by omega) b35]; rfl, rfl, rfl⟩
    exact LP15 0 (Nat.zero_le _) rfl
  ·
    refine v_iconst (v := nI 0) dX6_isLike_11 (by decide) ?_
    refine v_zret dX6_isLike_12 rfl (by decide) (Nat.le_refl _) (Nat.le_refl _) ?_
    exact ⟨by rw [told_F1 b8]; rfl, rfl, rfl⟩
theorem weq_F1 {f g : Nat → Int32} {a x b y : Nat} (h : ¬ y - b = x - a) : weq f g a x b y = false := by
  unfold weq
  have : (x - a == y - b) = false := by simp; omega
  rw [this]
  rfl
theorem weq_T {f g : Nat → Int32} {a x b y : Nat} (h : y - b = x - a) (h2 : al (fun k => f (a + k) == g (b + k)) (x - a) = true) : weq f g a x b y = true := by
  unfold weq
  rw [h2, h]
  simp
theorem weq_F {f g : Nat → Int32} {a x b y k : Nat} (hk : k < x - a) (h : ¬ f (a + k) = g (b + k)) : weq f g a x b y = false := by
  unfold weq
  have : al (fun k => f (a + k) == g (b + k)) (x - a) = false := by
    cases e : al (fun k => f (a + k) == g (b + k)) (x - a)
    · rfl
    · have := (al_iff _ _).mp e k hk
      exact absurd (by simpa using this) h
  rw [this]
  simp
set_option maxHeartbeats 2000000 in
set_option maxRecDepth 100000 in
theorem c_hasSameWord {w : Wd} {a b n m : Nat} {f g : Nat → Int32} (h1 : WO w a f n) (h2 : WO w b g m) (i j : Nat) (hi : i < nw f n) (hj : j < nw g m) : Rd mX6_hasSameWord 0 [.ref a, .int (nI i), .ref b, .int (nI j)] w (some (.int (b2i (same f n i g m j)))) := by
  intro sz
  refine Ev.ofV [some (.ref a), some (.int (nI i)), some (.ref b), some (.int (nI j)), none, none, none, none] (by decide) (Nat.le_of_ble_eq_true rfl) rfl rfl rfl ?_
  obtain ⟨aL, as, a1, a2, a3, a4, a5, a6, a7⟩ := h1
  obtain ⟨pL, ps, p1, p2, p3, p4, p5, p6, p7⟩ := h2
  have hn : 0 < n := (nw_pos (f := f)).mp (by omega)
  have hm : 0 < m := (nw_pos (f := g)).mp (by omega)
  have na := okT_nw30 a5 a4
  have nb := okT_nw30 p5 p4
  have x1 := a7 hn i (by omega)
  have x2 := a7 hn (i + 1) (by omega)
  have y1 := p7 hm j (by omega)
  have y2 := p7 hm (j + 1) (by omega)
  rw [beg_next hn hi] at x2
  rw [beg_next hm hj] at y2
  have B1 := beg_spec (nw_cnt hi)
  have B2 := beg_spec (nw_cnt hj)
  have E1 := enn_le (f := f) B1.1
  have E2 := enn_le (f := g) B2.1
  have hS : same f n i g m j = weq f g (beg f n i) (enn f n (beg f n i)) (beg g m j) (enn g m (beg g m j)) := rfl
  obtain ⟨u, ep⟩ : ∃ u, u = beg f n i := ⟨_, rfl⟩
  obtain ⟨q, eq⟩ : ∃ q, q = beg g m j := ⟨_, rfl⟩
  rw [← ep] at x1 x2 B1 E1 hS
  rw [← eq] at y1 y2 B2 E2 hS
  obtain ⟨e, ee⟩ : ∃ e, e = enn f n u := ⟨_, rfl⟩
  obtain ⟨r, er⟩ : ∃ r, r = enn g m q := ⟨_, rfl⟩
  rw [← ee] at x2 E1 hS
  rw [← er] at y2 E2 hS
  refine v_aload_n dX6_hasSameWord_0 rfl ?_
  refine v_get 2 dX6_hasSameWord_1 FTX6 (by decide) rfl fl_X6_15 a1 rfl ?_
  refine v_iload_n dX6_hasSameWord_4 rfl ?_
  refine v_ialdN _ dX6_hasSameWord_5 a3 rfl (by omega) (by decide) x1 ?_
  refine v_istore dX6_hasSameWord_6 (by decide) rfl ?_
  refine v_aload_n dX6_hasSameWord_8 rfl ?_
  refine v_get 2 dX6_hasSameWord_9 FTX6 (by decide) rfl fl_X6_15 p1 rfl ?_
  refine v_iload_n dX6_hasSameWord_12 rfl ?_
  refine v_ialdN _ dX6_hasSameWord_13 p3 rfl (by omega) (by decide) y1 ?_
  refine v_istore dX6_hasSameWord_14 (by decide) rfl ?_
  refine v_aload_n dX6_hasSameWord_16 rfl ?_
  refine v_get 2 dX6_hasSameWord_17 FTX6 (by decide) rfl fl_X6_15 a1 rfl ?_
  refine v_iload_n dX6_hasSameWord_20 rfl ?_
  refine v_iconst (v := nI 1) dX6_hasSameWord_21 (by decide) ?_
  refine v_iaddN dX6_hasSameWord_22 ?_
  refine v_ialdN _ dX6_hasSameWord_23 a3 rfl (by omega) (by decide) x2 ?_
  refine v_iconst (v := nI 1) dX6_hasSameWord_24 (by decide) ?_
  refine v_isubN dX6_hasSameWord_25 (by omega) ?_
  refine v_iload dX6_hasSameWord_26 rfl ?_
  refine v_isubN dX6_hasSameWord_28 (by omega) ?_
  rw [show e + 1 - 1 - u = e - u by omega]
  refine v_istore dX6_hasSameWord_29 (by decide) rfl ?_
  refine v_aload_n dX6_hasSameWord_31 rfl ?_
  refine v_get 2 dX6_hasSameWord_32 FTX6 (by decide) rfl fl_X6_15 p1 rfl ?_
  refine v_iload_n dX6_hasSameWord_35 rfl ?_
  refine v_iconst (v := nI 1) dX6_hasSameWord_36 (by decide) ?_
  refine v_iaddN dX6_hasSameWord_37 ?_
  refine v_ialdN _ dX6_hasSameWord_38 p3 rfl (by omega) (by decide) y2 ?_
  refine v_iconst (v := nI 1) dX6_hasSameWord_39 (by decide) ?_
  refine v_isubN dX6_hasSameWord_40 (by omega) ?_
  refine v_iload dX6_hasSameWord_41 rfl ?_
  refine v_isubN dX6_hasSameWord_43 (by omega) ?_
  rw [show r + 1 - 1 - q = r - q by omega]
  refine v_iload dX6_hasSameWord_44 rfl ?_
  refine v_icmp_eqN (tgt := 51) dX6_hasSameWord_46 (by decide) (by omega) (by omega) (fun b46 => ?_) (fun b46 => ?_)
  ·
    refine v_iconst (v := nI 0) dX6_hasSameWord_51 (by decide) ?_
    refine v_istore dX6_hasSameWord_52 (by decide) rfl ?_
    have LP54 : ∀ k, k ≤ e - u → al (fun c => f (u + c) == g (q + c)) k = true → V mX6_hasSameWord 0 0 0 (fun r' w' zz => r' = some (.int (b2i (same f n i g m j))) ∧ w' = w ∧ zz = sz) (w) (sz) (0) (0) [some (.ref a), some (.int (nI i)), some (.ref b), some (.int (nI j)), some (.int (nI u)), some (.int (nI q)), some (.int (nI (e - u))), some (.int (nI k))] [] 54 := by
      refine dn (fun k hk ih => ?_)
      intro hal
      refine v_iload dX6_hasSameWord_54 rfl ?_
      refine v_iload dX6_hasSameWord_56 rfl ?_
      refine v_icmp_geN (tgt := 92) dX6_hasSameWord_58 (by decide) (by omega) (by omega) (fun b58 => ?_) (fun b58 => ?_)
      ·
        refine v_iconst (v := nI 1) dX6_hasSameWord_92 (by decide) ?_
        refine v_zret dX6_hasSameWord_93 rfl (by decide) (Nat.le_refl _) (Nat.le_refl _) ?_
        exact ⟨by rw [hS, weq_T (by omega) (by rw [show e - u = k by omega]; exact hal)]; rfl, rfl, rfl⟩
      ·
        refine v_aload_n dX6_hasSameWord_61 rfl ?_
        refine v_get 0 dX6_hasSameWord_62 FTX6 (by decide) rfl fl_X6_9 a1 rfl ?_
        refine v_iload dX6_hasSameWord_65 rfl ?_
        refine v_iload dX6_hasSameWord_67 rfl ?_
        refine v_iaddN dX6_hasSameWord_69 ?_
        refine v_caldE _ dX6_hasSameWord_70 a2 rfl (by omega) (by decide) (a6 (u + k) (by omega)) ?_
        refine v_aload_n dX6_hasSameWord_71 rfl ?_
        refine v_get 0 dX6_hasSameWord_72 FTX6 (by decide) rfl fl_X6_9 p1 rfl ?_
        refine v_iload dX6_hasSameWord_75 rfl ?_
        refine v_iload dX6_hasSameWord_77 rfl ?_
        refine v_iaddN dX6_hasSameWord_79 ?_
        refine v_caldE _ dX6_hasSameWord_80 p2 rfl (by omega) (by decide) (p6 (q + k) (by omega)) ?_
        refine v_icmp_eq (tgt := 86) dX6_hasSameWord_81 (by decide) (fun b81 => ?_) (fun b81 => ?_)
        ·
          refine v_iincN dX6_hasSameWord_86 (by decide) rfl rfl rfl ?_
          refine v_goto (tgt := 54) dX6_hasSameWord_89 (by decide) ?_
          exact ih (by omega) (al_S hal (by simpa using b81))
        ·
          refine v_iconst (v := nI 0) dX6_hasSameWord_84 (by decide) ?_
          refine v_zret dX6_hasSameWord_85 rfl (by decide) (Nat.le_refl _) (Nat.le_refl _) ?_
          exact ⟨by rw [hS, weq_F (k := k) (by omega) b81]; rfl, rfl, rfl⟩
    exact LP54 0 (Nat.zero_le _) rfl
  ·
    refine v_iconst (v := nI 0) dX6_hasSameWord_49 (by decide) ?_
    refine v_zret dX6_hasSameWord_50 rfl (by decide) (Nat.le_refl _) (Nat.le_refl _) ?_
    exact ⟨by rw [hS, weq_F1 (by omega)]; rfl, rfl, rfl⟩
set_option maxHeartbeats 2000000 in
set_option maxRecDepth 100000 in
theorem c_sharesWordWith {w : Wd} {a b n m : Nat} {f g : Nat → Int32} (h1 : WO w a f n) (h2 : WO w b g m) (hg : okT g m) : Rd mX6_sharesWordWith 1 [.ref a, .ref b] w (some (.int (b2i (hsT f n g m)))) := by
  intro sz
  refine Ev.ofV [some (.ref a), some (.ref b), none, none] (by decide) (Nat.le_of_ble_eq_true rfl) rfl rfl rfl ?_
  have H1 := h1
  have H2 := h2
  obtain ⟨aL, as, a1, a2, a3, a4, a5, a6, a7⟩ := H1
  obtain ⟨pL, ps, p1, p2, p3, p4, p5, p6, p7⟩ := H2
  have na := okT_nw30 a5 a4
  have nb := okT_nw30 p5 p4
  refine v_iconst (v := nI 0) dX6_sharesWordWith_0 (by decide) ?_
  refine v_istore_n dX6_sharesWordWith_1 (by decide) rfl ?_
  have LP2 : ∀ i, i ≤ nw f n → (∀ i' j', i' < i → j' < nw g m → same f n i' g m j' = false) → V mX6_sharesWordWith 1 0 0 (fun r' w' zz => r' = some (.int (b2i (hsT f n g m))) ∧ w' = w ∧ zz = sz) (w) (sz) (0) (0) [some (.ref a), some (.ref b), some (.int (nI i)), none] [] 2 := by
    refine dn (fun i hi ih => ?_)
    intro hno
    refine v_iload_n dX6_sharesWordWith_2 rfl ?_
    refine v_aload_n dX6_sharesWordWith_3 rfl ?_
    refine v_get 3 dX6_sharesWordWith_4 FTX6 (by decide) rfl fl_X6_23 a1 rfl ?_
    refine v_icmp_geN (tgt := 44) dX6_sharesWordWith_7 (by decide) (by omega) (by omega) (fun b7 => ?_) (fun b7 => ?_)
    ·
      refine v_iconst (v := nI 0) dX6_sharesWordWith_44 (by decide) ?_
      refine v_zret dX6_sharesWordWith_45 rfl (by decide) (Nat.le_refl _) (Nat.le_refl _) ?_
      have hq : hsT f n g m = false := by
        cases e : hsT f n g m
        · rfl
        · obtain ⟨i', j', h3, h4, h5⟩ := hsT_F hg e
          rw [hno i' j' (by omega) h4] at h5
          cases h5
      exact ⟨by rw [hq]; rfl, rfl, rfl⟩
    ·
      refine v_iconst (v := nI 0) dX6_sharesWordWith_10 (by decide) ?_
      refine v_istore_n dX6_sharesWordWith_11 (by decide) rfl ?_
      have LP12 : ∀ j, j ≤ nw g m → (∀ j', j' < j → same f n i g m j' = false) → V mX6_sharesWordWith 1 0 0 (fun r' w' zz => r' = some (.int (b2i (hsT f n g m))) ∧ w' = w ∧ zz = sz) (w) (sz) (0) (0) [some (.ref a), some (.ref b), some (.int (nI i)), some (.int (nI j))] [] 12 := by
        refine dn (fun j hj ihj => ?_)
        intro hno2
        refine v_iload_n dX6_sharesWordWith_12 rfl ?_
        refine v_aload_n dX6_sharesWordWith_13 rfl ?_
        refine v_get 3 dX6_sharesWordWith_14 FTX6 (by decide) rfl fl_X6_23 p1 rfl ?_
        refine v_icmp_geN (tgt := 38) dX6_sharesWordWith_17 (by decide) (by omega) (by omega) (fun b17 => ?_) (fun b17 => ?_)
        ·
          refine v_iincN dX6_sharesWordWith_38 (by decide) rfl rfl rfl ?_
          refine v_goto (tgt := 2) dX6_sharesWordWith_41 (by decide) ?_
          refine v_drop 3 ?_
          exact ih (by omega) (fun i' j' h h' => by
            by_cases e : i' = i
            · rw [e]; exact hno2 j' (by omega)
            · exact hno i' j' (by omega) h')
        ·
          refine v_aload_n dX6_sharesWordWith_20 rfl ?_
          refine v_iload_n dX6_sharesWordWith_21 rfl ?_
          refine v_aload_n dX6_sharesWordWith_22 rfl ?_
          refine v_iload_n dX6_sharesWordWith_23 rfl ?_
          refine u_rV3 oX6_hasSameWord dX6_sharesWordWith_24 ml_X6_38 (c_hasSameWord h1 h2 i j (by omega) (by omega)) a1 (by decide) (Nat.le_of_ble_eq_true rfl) (Nat.le_refl _) (Nat.le_refl _) ?_
          refine v_if_eqB (tgt := 32) dX6_sharesWordWith_27 (by decide) (fun b27 => ?_) (fun b27 => ?_)
          ·
            refine v_iincN dX6_sharesWordWith_32 (by decide) rfl rfl rfl ?_
            refine v_goto (tgt := 12) dX6_sharesWordWith_35 (by decide) ?_
            exact ihj (by omega) (fun j' h => by
              by_cases e : j' = j
              · rw [e]; exact b27
              · exact hno2 j' (by omega))
          ·
            refine v_iconst (v := nI 1) dX6_sharesWordWith_30 (by decide) ?_
            refine v_zret dX6_sharesWordWith_31 rfl (by decide) (Nat.le_refl _) (Nat.le_refl _) ?_
            exact ⟨by rw [hsT_T (i := i) (j := j) (by omega) (by omega) b27]; rfl, rfl, rfl⟩
      exact LP12 0 (Nat.zero_le _) (fun j' h => absurd h (Nat.not_lt_zero _))
  exact LP2 0 (Nat.zero_le _) (fun i' j' h => absurd h (Nat.not_lt_zero _))
theorem rst_T {e : Nat → Bool} {pv : Nat → Nat} {j : Nat} (h : e j = true) : rst e pv (j + 1) = pv j + 1 := by simp [rst, h]
theorem rst_F {e : Nat → Bool} {pv : Nat → Nat} {j : Nat} (h : e j = false) : rst e pv (j + 1) = if pv (j + 1) < rst e pv j then rst e pv j else pv (j + 1) := by
  have e1 : rst e pv (j + 1) = if e j = true then pv j + 1 else if rst e pv j < pv (j + 1) then pv (j + 1) else rst e pv j := rfl
  rw [e1, if_neg (by rw [h]; decide)]
  split <;> split <;> omega
theorem lcr_0 (e : Nat → Nat → Bool) (i : Nat) : lcr e i 0 = 0 := by cases i <;> rfl
set_option maxHeartbeats 2000000 in
set_option maxRecDepth 100000 in
theorem c_mostInCommon {w : Wd} {a b n m : Nat} {f g : Nat → Int32} (h1 : WO w a f n) (h2 : WO w b g m) {c : Nat} {rw0 : Nat → Int32} (hc : w c = some (ia 1 31 rw0)) (d1 : c < a ∨ a + 3 ≤ c) (d2 : c < b ∨ b + 3 ≤ c) : Wr mX6_mostInCommon 1 [.ref a, .ref b, .ref c] w (fun r' w' => r' = some (.int (nI (lcr (smE f g n m) (nw f n) (nw g m)))) ∧ ∃ R, w' = wu w c (ia 1 31 R)) := by
  intro sz
  refine Ev.ofV [some (.ref a), some (.ref b), some (.ref c), none, none, none, none] (by decide) (Nat.le_of_ble_eq_true rfl) rfl rfl rfl ?_
  have H1 := h1
  have H2 := h2
  obtain ⟨aL, as, a1, a2, a3, a4, a5, a6, a7⟩ := H1
  obtain ⟨pL, ps, p1, p2, p3, p4, p5, p6, p7⟩ := H2
  have na := okT_nw30 a5 a4
  have nb := okT_nw30 p5 p4
  refine v_aload_n dX6_mostInCommon_0 rfl ?_
  refine v_iconst (v := nI 0) dX6_mostInCommon_1 (by decide) ?_
  refine n_wS2 oJ7_fill_53178 dX6_mostInCommon_2 ml_X6_46 (c_fill hc (by decide) (nI 0)) (by decide) (Nat.le_of_ble_eq_true rfl) (Nat.le_refl _) (Nat.le_refl _) ?_
  refine v_iconst (v := nI 0) dX6_mostInCommon_5 (by decide) ?_
  refine v_istore_n dX6_mostInCommon_6 (by decide) rfl ?_
  have LP7 : ∀ i, i ≤ nw f n → ∀ R, (∀ j', j' ≤ nw g m → R j' = nI (lcr (smE f g n m) i j')) → V mX6_mostInCommon 1 0 0 (fun r' w' zz => zz = sz ∧ (r' = some (.int (nI (lcr (smE f g n m) (nw f n) (nw g m)))) ∧ ∃ R, w' = wu w c (ia 1 31 R))) (wu w c (ia 1 31 R)) (sz) (0) (0) [some (.ref a), some (.ref b), some (.ref c), some (.int (nI i)), none, none, none] [] 7 := by
    refine dn (fun i hi ih => ?_)
    intro R hR
    refine v_iload_n dX6_mostInCommon_7 rfl ?_
    refine v_aload_n dX6_mostInCommon_8 rfl ?_
    refine v_get 3 dX6_mostInCommon_9 FTX6 (by decide) rfl fl_X6_23 ((wu_ne _ _ (by omega)).trans a1) rfl ?_
    refine v_icmp_geN (tgt := 93) dX6_mostInCommon_12 (by decide) (by omega) (by omega) (fun b12 => ?_) (fun b12 => ?_)
    ·
      have e1 : i = nw f n := by omega
      subst e1
      refine v_aload_n dX6_mostInCommon_93 rfl ?_
      refine v_aload_n dX6_mostInCommon_94 rfl ?_
      refine v_get 3 dX6_mostInCommon_95 FTX6 (by decide) rfl fl_X6_23 ((wu_ne _ _ (by omega)).trans p1) rfl ?_
      refine v_ialdN _ dX6_mostInCommon_98 (wu_eq _ _ _) rfl (by omega) (by decide) (hR _ (Nat.le_refl _)) ?_
      refine v_iret dX6_mostInCommon_99 rfl (Nat.le_refl _) (Nat.le_refl _) ?_
      exact ⟨rfl, rfl, _, rfl⟩
    ·
      refine v_iconst (v := nI 0) dX6_mostInCommon_15 (by decide) ?_
      refine v_eqs (show [.int (nI (lcr (smE f g n m) i 0))] = _ by rw [lcr_0]) ?_
      refine v_istore dX6_mostInCommon_16 (by decide) rfl ?_
      refine v_iconst (v := nI 0) dX6_mostInCommon_18 (by decide) ?_
      refine v_istore dX6_mostInCommon_19 (by decide) rfl ?_
      have LP21 : ∀ j, j ≤ nw g m → ∀ R, (∀ j', j' ≤ j → R j' = nI (rst ((smE f g n m) i) (lcr (smE f g n m) i) j')) → (∀ j', j < j' → j' ≤ nw g m → R j' = nI (lcr (smE f g n m) i j')) → V mX6_mostInCommon 1 0 0 (fun r' w' zz => zz = sz ∧ (r' = some (.int (nI (lcr (smE f g n m) (nw f n) (nw g m)))) ∧ ∃ R, w' = wu w c (ia 1 31 R))) (wu w c (ia 1 31 R)) (sz) (0) (0) [some (.ref a), some (.ref b), some (.ref c), some (.int (nI i)), some (.int (nI (lcr (smE f g n m) i j))), some (.int (nI j)), none] [] 21 := by
        refine dn (fun j hj ihj => ?_)
        intro R hR1 hR2
        refine v_iload dX6_mostInCommon_21 rfl ?_
        refine v_aload_n dX6_mostInCommon_23 rfl ?_
        refine v_get 3 dX6_mostInCommon_24 FTX6 (by decide) rfl fl_X6_23 ((wu_ne _ _ (by omega)).trans p1) rfl ?_
        refine v_icmp_geN (tgt := 87) dX6_mostInCommon_27 (by decide) (by omega) (by omega) (fun b27 => ?_) (fun b27 => ?_)
        ·
          have e2 : j = nw g m := by omega
          have hq1 : ∀ j', j' ≤ nw g m → R j' = nI (lcr (smE f g n m) (i + 1) j') := fun j' h => by
            rw [hR1 j' (by omega)]
            rfl
          refine v_iincN dX6_mostInCommon_87 (by decide) rfl rfl rfl ?_
          refine v_goto (tgt := 7) dX6_mostInCommon_90 (by decide) ?_
          refine v_drop 4 ?_
          refine v_drop 5 ?_
          refine v_drop 6 ?_
          exact ih (by omega) R hq1
        ·
          refine v_aload_n dX6_mostInCommon_30 rfl ?_
          refine v_iload dX6_mostInCommon_31 rfl ?_
          refine v_iconst (v := nI 1) dX6_mostInCommon_33 (by decide) ?_
          refine v_iaddN dX6_mostInCommon_34 ?_
          refine v_ialdN _ dX6_mostInCommon_35 (wu_eq _ _ _) rfl (by omega) (by decide) (hR2 (j + 1) (by omega) (by omega)) ?_
          refine v_istore dX6_mostInCommon_36 (by decide) rfl ?_
          refine v_aload_n dX6_mostInCommon_38 rfl ?_
          refine v_iload_n dX6_mostInCommon_39 rfl ?_
          refine v_aload_n dX6_mostInCommon_40 rfl ?_
          refine v_iload dX6_mostInCommon_41 rfl ?_
          refine u_rV3 oX6_hasSameWord dX6_mostInCommon_43 ml_X6_38 (c_hasSameWord (h1.fr (fun q h h2 => wu_ne _ _ (by omega))) (h2.fr (fun q h h2 => wu_ne _ _ (by omega))) i j (by omega) (by omega)) ((wu_ne _ _ (by omega)).trans a1) (by decide) (Nat.le_of_ble_eq_true rfl) (Nat.le_refl _) (Nat.le_refl _) ?_
          refine v_if_eqB (tgt := 62) dX6_mostInCommon_46 (by decide) (fun b46 => ?_) (fun b46 => ?_)
          ·
            refine v_aload_n dX6_mostInCommon_62 rfl ?_
            refine v_iload dX6_mostInCommon_63 rfl ?_
            refine v_iconst (v := nI 1) dX6_mostInCommon_65 (by decide) ?_
            refine v_iaddN dX6_mostInCommon_66 ?_
            refine v_iload dX6_mostInCommon_67 rfl ?_
            refine v_aload_n dX6_mostInCommon_69 rfl ?_
            refine v_iload dX6_mostInCommon_70 rfl ?_
            refine v_ialdN _ dX6_mostInCommon_72 (wu_eq _ _ _) rfl (by omega) (by decide) (hR1 j (Nat.le_refl _)) ?_
            have hl1 := lcr_le (e := (smE f g n m)) i (j + 1)
            have hl2 := rst_le (e := (smE f g n m) i) (pv := lcr (smE f g n m) i) (b := i) (lcr_le i) j
            refine v_mmaxN dX6_mostInCommon_73 ml_X6_52 (by decide) (Nat.le_of_ble_eq_true rfl) (Nat.le_refl _) (Nat.le_refl _) (by omega) (by omega) ?_
            refine v_iast _ dX6_mostInCommon_76 (wu_eq _ _ _) rfl (by omega) (by decide) ?_
            refine v_eqw (wu_wu _ _ _ _).symm ?_
            have hv : nI (if lcr (smE f g n m) i (j + 1) < rst ((smE f g n m) i) (lcr (smE f g n m) i) j then rst ((smE f g n m) i) (lcr (smE f g n m) i) j else lcr (smE f g n m) i (j + 1)) = nI (rst ((smE f g n m) i) (lcr (smE f g n m) i) (j + 1)) := by
              rw [rst_F (e := (smE f g n m) i) b46]
            have hq1 : ∀ j', j' ≤ j + 1 → upd R (j + 1) (nI (rst ((smE f g n m) i) (lcr (smE f g n m) i) (j + 1))) j' = nI (rst ((smE f g n m) i) (lcr (smE f g n m) i) j') := fun j' h => by
              by_cases e : j' = j + 1
              · rw [e, up_eq]
              · rw [up_ne _ _ e, hR1 j' (by omega)]
            have hq2 : ∀ j', j + 1 < j' → j' ≤ nw g m → upd R (j + 1) (nI (rst ((smE f g n m) i) (lcr (smE f g n m) i) (j + 1))) j' = nI (lcr (smE f g n m) i j') := fun j' h h' => by
              rw [up_ne _ _ (by omega), hR2 j' (by omega) h']
            rw [hv]
            refine v_iload dX6_mostInCommon_77 rfl ?_
            refine v_istore dX6_mostInCommon_79 (by decide) rfl ?_
            refine v_iincN dX6_mostInCommon_81 (by decide) rfl rfl rfl ?_
            refine v_goto (tgt := 21) dX6_mostInCommon_84 (by decide) ?_
            refine v_drop 6 ?_
            exact ihj (by omega) _ hq1 hq2
          ·
            refine v_aload_n dX6_mostInCommon_49 rfl ?_
            refine v_iload dX6_mostInCommon_50 rfl ?_
            refine v_iconst (v := nI 1) dX6_mostInCommon_52 (by decide) ?_
            refine v_iaddN dX6_mostInCommon_53 ?_
            refine v_iload dX6_mostInCommon_54 rfl ?_
            refine v_iconst (v := nI 1) dX6_mostInCommon_56 (by decide) ?_
            refine v_iaddN dX6_mostInCommon_57 ?_
            refine v_iast _ dX6_mostInCommon_58 (wu_eq _ _ _) rfl (by omega) (by decide) ?_
            refine v_eqw (wu_wu _ _ _ _).symm ?_
            have hv : nI (lcr (smE f g n m) i j + 1) = nI (rst ((smE f g n m) i) (lcr (smE f g n m) i) (j + 1)) := by
              rw [rst_T (e := (smE f g n m) i) b46]
            have hq1 : ∀ j', j' ≤ j + 1 → upd R (j + 1) (nI (rst ((smE f g n m) i) (lcr (smE f g n m) i) (j + 1))) j' = nI (rst ((smE f g n m) i) (lcr (smE f g n m) i) j') := fun j' h => by
              by_cases e : j' = j + 1
              · rw [e, up_eq]
              · rw [up_ne _ _ e, hR1 j' (by omega)]
            have hq2 : ∀ j', j + 1 < j' → j' ≤ nw g m → upd R (j + 1) (nI (rst ((smE f g n m) i) (lcr (smE f g n m) i) (j + 1))) j' = nI (lcr (smE f g n m) i j') := fun j' h h' => by
              rw [up_ne _ _ (by omega), hR2 j' (by omega) h']
            rw [hv]
            refine v_goto (tgt := 77) dX6_mostInCommon_59 (by decide) ?_
            refine v_iload dX6_mostInCommon_77 rfl ?_
            refine v_istore dX6_mostInCommon_79 (by decide) rfl ?_
            refine v_iincN dX6_mostInCommon_81 (by decide) rfl rfl rfl ?_
            refine v_goto (tgt := 21) dX6_mostInCommon_84 (by decide) ?_
            refine v_drop 6 ?_
            exact ihj (by omega) _ hq1 hq2
      exact LP21 0 (Nat.zero_le _) R (fun j' h => by
        rw [show j' = 0 by omega, hR 0 (Nat.zero_le _), lcr_0]
        rfl) (fun j' h h' => hR j' h')
  exact LP7 0 (Nat.zero_le _) _ (fun j' h => by
    unfold flF
    rw [if_pos (by omega)]
    rfl)
set_option maxHeartbeats 2000000 in
set_option maxRecDepth 100000 in
theorem c_distanceTo {w : Wd} {a b n m : Nat} {f g : Nat → Int32} (h1 : WO w a f n) (h2 : WO w b g m) {c : Nat} {rw0 : Nat → Int32} (hc : w c = some (ia 1 31 rw0)) (d1 : c < a ∨ a + 3 ≤ c) (d2 : c < b ∨ b + 3 ≤ c) : Wr mX6_distanceTo 2 [.ref a, .ref b, .ref c] w (fun r' w' => r' = some (.int (aprt f g n m)) ∧ ∃ R, w' = wu w c (ia 1 31 R)) := by
  intro sz
  refine Ev.ofV [some (.ref a), some (.ref b), some (.ref c)] (by decide) (Nat.le_of_ble_eq_true rfl) rfl rfl rfl ?_
  have H1 := h1
  have H2 := h2
  obtain ⟨aL, as, a1, a2, a3, a4, a5, a6, a7⟩ := H1
  obtain ⟨pL, ps, p1, p2, p3, p4, p5, p6, p7⟩ := H2
  refine v_aload_n dX6_distanceTo_0 rfl ?_
  refine v_get 3 dX6_distanceTo_1 FTX6 (by decide) rfl fl_X6_23 a1 rfl ?_
  refine v_aload_n dX6_distanceTo_4 rfl ?_
  refine v_get 3 dX6_distanceTo_5 FTX6 (by decide) rfl fl_X6_23 p1 rfl ?_
  refine v_iaddN dX6_distanceTo_8 ?_
  refine v_iconst (v := nI 2) dX6_distanceTo_9 (by decide) ?_
  refine v_aload_n dX6_distanceTo_10 rfl ?_
  refine v_aload_n dX6_distanceTo_11 rfl ?_
  refine v_aload_n dX6_distanceTo_12 rfl ?_
  refine v_wV2 oX6_mostInCommon dX6_distanceTo_13 ml_X6_42 (c_mostInCommon h1 h2 hc d1 d2) a1 (by decide) (Nat.le_of_ble_eq_true rfl) (Nat.le_refl _) (Nat.le_refl _) (fun r' w1 hq => ?_)
  obtain ⟨rfl, hR⟩ := hq
  refine v_eqs (show [.int (nI (lcr (smE f g n m) (nw f n) (nw g m))), .int (nI 2), .int (nI (nw f n + nw g m))] = _ from rfl) ?_
  refine v_imulN dX6_distanceTo_16 ?_
  refine v_isub dX6_distanceTo_17 ?_
  refine v_iret dX6_distanceTo_18 rfl (Nat.le_refl _) (Nat.le_refl _) ?_
  exact ⟨rfl, rfl, hR⟩
set_option maxHeartbeats 2000000 in
set_option maxRecDepth 100000 in
theorem c_empty {w : Wd} {a n : Nat} {f : Nat → Int32} (h1 : WO w a f n) : Wr mX6_empty 0 [.ref a] w (fun r' w' => r' = none ∧ (∀ g, WO w' a g 0) ∧ fr a 3 w w') := by
  intro sz
  refine Ev.ofV [some (.ref a)] (by decide) (Nat.le_of_ble_eq_true rfl) rfl rfl rfl ?_
  obtain ⟨aL, as, a1, a2, a3, a4, a5, a6, a7⟩ := h1
  refine v_aload_n dX6_empty_0 rfl ?_
  refine v_iconst (v := nI 0) dX6_empty_1 (by decide) ?_
  refine v_put 1 dX6_empty_2 FTX6 (by decide) rfl fl_X6_19 a1 rfl rfl (Nat.le_of_ble_eq_true rfl) rfl ?_
  refine v_aload_n dX6_empty_5 rfl ?_
  refine v_iconst (v := nI 0) dX6_empty_6 (by decide) ?_
  refine v_put 3 dX6_empty_7 FTX6 (by decide) rfl fl_X6_23 (wu_eq _ _ _) rfl rfl (Nat.le_of_ble_eq_true rfl) rfl ?_
  refine v_ret dX6_empty_10 rfl (Nat.le_refl _) (Nat.le_refl _) ?_
  exact ⟨rfl, rfl, fun g => ⟨aL, as, by rw [wu_eq, nw_0]; rfl, (wu_ne _ _ (by omega)).trans ((wu_ne _ _ (by omega)).trans a2), (wu_ne _ _ (by omega)).trans ((wu_ne _ _ (by omega)).trans a3), by omega, Or.inl rfl, fun k h => absurd h (Nat.not_lt_zero _), fun h => absurd h (Nat.lt_irrefl _)⟩, ((fr.rf a 3 w).wu _ (by omega) (by omega)).wu _ (by omega) (by omega)⟩
set_option maxHeartbeats 2000000 in
set_option maxRecDepth 100000 in
theorem c_cutTo6 {w : Wd} {a n : Nat} {f : Nat → Int32} (h1 : WO w a f n) (lim : Nat) (hl : 1 ≤ lim) (hl2 : lim < 100) : Wr mX6_cutTo 0 [.ref a, .int (nI lim)] w (fun r' w' => r' = none ∧ WO w' a f (if lim < nw f n then beg f n lim - 1 else n) ∧ fr a 3 w w') := by
  intro sz
  refine Ev.ofV [some (.ref a), some (.int (nI lim))] (by decide) (Nat.le_of_ble_eq_true rfl) rfl rfl rfl ?_
  have H1 := h1
  obtain ⟨aL, as, a1, a2, a3, a4, a5, a6, a7⟩ := H1
  have H1 := h1
  have na := okT_nw30 a5 a4
  have hp : 0 < nw f n → 0 < n := fun h => nw_pos.mp h
  refine v_iload_n dX6_cutTo_0 rfl ?_
  refine v_aload_n dX6_cutTo_1 rfl ?_
  refine v_get 3 dX6_cutTo_2 FTX6 (by decide) rfl fl_X6_23 a1 rfl ?_
  refine v_icmp_geN (tgt := 25) dX6_cutTo_5 (by decide) (by omega) (by omega) (fun b5 => ?_) (fun b5 => ?_)
  ·
    refine v_ret dX6_cutTo_25 rfl (Nat.le_refl _) (Nat.le_refl _) ?_
    exact ⟨rfl, rfl, by rw [if_neg (by omega)]; exact H1, fr.rf a 3 w⟩
  ·
    have hn0 := hp (by omega)
    have c := cut_ok (a5.resolve_left (by omega)) hl (show lim < nw f n by omega)
    refine v_aload_n dX6_cutTo_8 rfl ?_
    refine v_iload_n dX6_cutTo_9 rfl ?_
    refine v_put 3 dX6_cutTo_10 FTX6 (by decide) rfl fl_X6_23 a1 rfl rfl (Nat.le_of_ble_eq_true rfl) rfl ?_
    refine v_aload_n dX6_cutTo_13 rfl ?_
    refine v_aload_n dX6_cutTo_14 rfl ?_
    refine v_get 2 dX6_cutTo_15 FTX6 (by decide) rfl fl_X6_15 (wu_eq _ _ _) rfl ?_
    refine v_iload_n dX6_cutTo_18 rfl ?_
    refine v_ialdN _ dX6_cutTo_19 ((wu_ne _ _ (by omega)).trans a3) rfl (by omega) (by decide) (a7 (by omega) lim (by omega)) ?_
    refine v_iconst (v := nI 1) dX6_cutTo_20 (by decide) ?_
    refine v_isubN dX6_cutTo_21 (by omega) ?_
    refine v_put 1 dX6_cutTo_22 FTX6 (by decide) rfl fl_X6_19 (wu_eq _ _ _) rfl rfl (Nat.le_of_ble_eq_true rfl) rfl ?_
    refine v_gen (fun w' => w' a = some (ob 6 [.ref (a + 1), .int (nI (beg f n lim - 1)), .ref (a + 2), .int (nI lim)]) ∧ ∀ q, q ≠ a → w' q = w q) ⟨by rw [wu_eq]; rfl, fun q hq => (wu_ne _ _ hq).trans (wu_ne _ _ hq)⟩ (fun w1 hg => ?_)
    obtain ⟨g1, g2⟩ := hg
    refine v_ret dX6_cutTo_25 rfl (Nat.le_refl _) (Nat.le_refl _) ?_
    exact ⟨rfl, rfl, by
      rw [if_pos (by omega)]
      exact ⟨aL, as, by rw [g1, c.2.1], (g2 _ (by omega)).trans a2, (g2 _ (by omega)).trans a3, by omega, Or.inr c.1, fun k hk => a6 k (by omega), fun h j hj => by rw [c.2.2.2.2 j (by rw [← c.2.1]; exact hj)]; exact a7 (by omega) j (by have := c.2.1; omega)⟩, fun q hq => g2 q (by omega)⟩
set_option maxHeartbeats 2000000 in
set_option maxRecDepth 100000 in
theorem c_copyFrom6 {w : Wd} {a b n m : Nat} {f g : Nat → Int32} (h1 : WO w a f n) (h2 : WO w b g m) (hd : a + 3 ≤ b ∨ b + 3 ≤ a) : Wr mX6_copyFrom 1 [.ref a, .ref b] w (fun r' w' => r' = none ∧ WO w' a g m ∧ fr a 3 w w') := by
  intro sz
  refine Ev.ofV [some (.ref a), some (.ref b)] (by decide) (Nat.le_of_ble_eq_true rfl) rfl rfl rfl ?_
  have H1 := h1
  obtain ⟨aL, as, a1, a2, a3, a4, a5, a6, a7⟩ := H1
  obtain ⟨pL, ps, p1, p2, p3, p4, p5, p6, p7⟩ := h2
  have nb := okT_nw30 p5 p4
  refine v_aload_n dX6_copyFrom_0 rfl ?_
  refine v_aload_n dX6_copyFrom_1 rfl ?_
  refine v_get 1 dX6_copyFrom_2 FTX6 (by decide) rfl fl_X6_19 p1 rfl ?_
  refine v_put 1 dX6_copyFrom_5 FTX6 (by decide) rfl fl_X6_19 a1 rfl rfl (Nat.le_of_ble_eq_true rfl) rfl ?_
  refine v_aload_n dX6_copyFrom_8 rfl ?_
  refine v_aload_n dX6_copyFrom_9 rfl ?_
  refine v_get 3 dX6_copyFrom_10 FTX6 (by decide) rfl fl_X6_23 ((wu_ne _ _ (by omega)).trans p1) rfl ?_
  refine v_put 3 dX6_copyFrom_13 FTX6 (by decide) rfl fl_X6_23 (wu_eq _ _ _) rfl rfl (Nat.le_of_ble_eq_true rfl) rfl ?_
  refine v_gen (fun w' => w' a = some (ob 6 [.ref (a + 1), .int (nI m), .ref (a + 2), .int (nI (nw g m))]) ∧ ∀ q, q ≠ a → w' q = w q) ⟨by rw [wu_eq]; rfl, fun q hq => (wu_ne _ _ hq).trans (wu_ne _ _ hq)⟩ (fun w1 hg => ?_)
  obtain ⟨g1, g2⟩ := hg
  refine v_aload_n dX6_copyFrom_16 rfl ?_
  refine v_get 0 dX6_copyFrom_17 FTX6 (by decide) rfl fl_X6_9 ((g2 _ (by omega)).trans p1) rfl ?_
  refine v_iconst (v := nI 0) dX6_copyFrom_20 (by decide) ?_
  refine v_aload_n dX6_copyFrom_21 rfl ?_
  refine v_get 0 dX6_copyFrom_22 FTX6 (by decide) rfl fl_X6_9 g1 rfl ?_
  refine v_iconst (v := nI 0) dX6_copyFrom_25 (by decide) ?_
  refine v_aload_n dX6_copyFrom_26 rfl ?_
  refine v_get 1 dX6_copyFrom_27 FTX6 (by decide) rfl fl_X6_19 g1 rfl ?_
  refine v_copy (t := 0) (n := m) (by decide) dX6_copyFrom_30 ml_X6_32 ((g2 _ (by omega)).trans p2) ((g2 _ (by omega)).trans a2) (by omega) (by omega) (by decide) (fun i hi => by
    rcases p5 with z | z
    · omega
    · rw [p6 i hi]; exact okc_fits (z.2.1 i hi)) (by decide) (Nat.le_of_ble_eq_true rfl) ?_
  refine v_aload_n dX6_copyFrom_33 rfl ?_
  refine v_get 2 dX6_copyFrom_34 FTX6 (by decide) rfl fl_X6_15 ((wu_ne _ _ (by omega)).trans ((g2 _ (by omega)).trans p1)) rfl ?_
  refine v_iconst (v := nI 0) dX6_copyFrom_37 (by decide) ?_
  refine v_aload_n dX6_copyFrom_38 rfl ?_
  refine v_get 2 dX6_copyFrom_39 FTX6 (by decide) rfl fl_X6_15 ((wu_ne _ _ (by omega)).trans g1) rfl ?_
  refine v_iconst (v := nI 0) dX6_copyFrom_42 (by decide) ?_
  refine v_aload_n dX6_copyFrom_43 rfl ?_
  refine v_get 3 dX6_copyFrom_44 FTX6 (by decide) rfl fl_X6_23 ((wu_ne _ _ (by omega)).trans g1) rfl ?_
  refine v_iconst (v := nI 1) dX6_copyFrom_47 (by decide) ?_
  refine v_iaddN dX6_copyFrom_48 ?_
  refine v_copy (t := 1) (n := nw g m + 1) (by decide) dX6_copyFrom_49 ml_X6_32 ((wu_ne _ _ (by omega)).trans ((g2 _ (by omega)).trans p3)) ((wu_ne _ _ (by omega)).trans ((g2 _ (by omega)).trans a3)) (by omega) (by omega) (by decide) (fun i hi => rfl) (by decide) (Nat.le_of_ble_eq_true rfl) ?_
  refine v_ret dX6_copyFrom_52 rfl (Nat.le_refl _) (Nat.le_refl _) ?_
  exact ⟨rfl, rfl, ⟨_, _, (wu_ne _ _ (by omega)).trans ((wu_ne _ _ (by omega)).trans g1), (wu_ne _ _ (by omega)).trans (wu_eq _ _ _), wu_eq _ _ _, p4, p5, fun k hk => by
    show (if k < m then pL k else aL k) = g k
    rw [if_pos hk]
    exact p6 k hk, fun hm j hj => by
    show (if j < nw g m + 1 then ps j else as j) = _
    rw [if_pos (by omega)]
    exact p7 hm j hj⟩, fun q hq => (wu_ne _ _ (by omega)).trans ((wu_ne _ _ (by omega)).trans (g2 q (by omega)))⟩
/-- the text: an object with its row -/
def TO (w : Wd) (t : Nat) (tx : Nat → Int32) (tn : Nat) : Prop := w t = some (ob 5 [.ref (t + 1), .int (nI tn)]) ∧ w (t + 1) = some (ia 0 60 tx) ∧ tn ≤ 60
set_option maxHeartbeats 2000000 in
set_option maxRecDepth 100000 in
theorem c_add {w : Wd} {t tn : Nat} {tx : Nat → Int32} (h : TO w t tx tn) (c : Int32) : Wr mX5_add 0 [.ref t, .int c] w (fun r' w' => (tn = 60 ∧ r' = some (.int (b2i false)) ∧ w' = w) ∨ (tn < 60 ∧ r' = some (.int (b2i true)) ∧ TO w' t (upd tx tn (vp_nar .char c)) (tn + 1) ∧ fr t 2 w w')) := by
  intro sz
  refine Ev.ofV [some (.ref t), some (.int c)] (by decide) (Nat.le_of_ble_eq_true rfl) rfl rfl rfl ?_
  have ht := h.2.2
  refine v_aload_n dX5_add_0 rfl ?_
  refine v_get 1 dX5_add_1 FTX5 (by decide) rfl fl_X5_15 h.1 rfl ?_
  refine v_bipush (v := nI 60) dX5_add_4 (by decide) ?_
  refine v_icmp_ltN (tgt := 11) dX5_add_6 (by decide) (by omega) (by omega) (fun b6 => ?_) (fun b6 => ?_)
  ·
    refine v_aload_n dX5_add_11 rfl ?_
    refine v_get 0 dX5_add_12 FTX5 (by decide) rfl fl_X5_9 h.1 rfl ?_
    refine v_aload_n dX5_add_15 rfl ?_
    refine v_get 1 dX5_add_16 FTX5 (by decide) rfl fl_X5_15 h.1 rfl ?_
    refine v_iload_n dX5_add_19 rfl ?_
    refine v_cast _ dX5_add_20 h.2.1 rfl (by omega) (by decide) ?_
    refine v_aload_n dX5_add_21 rfl ?_
    refine v_dup dX5_add_22 rfl ?_
    refine v_get 1 dX5_add_23 FTX5 (by decide) rfl fl_X5_15 ((wu_ne _ _ (by omega)).trans h.1) rfl ?_
    refine v_iconst (v := nI 1) dX5_add_26 (by decide) ?_
    refine v_iaddN dX5_add_27 ?_
    refine v_put 1 dX5_add_28 FTX5 (by decide) rfl fl_X5_15 ((wu_ne _ _ (by omega)).trans h.1) rfl rfl (Nat.le_of_ble_eq_true rfl) rfl ?_
    refine v_iconst (v := nI 1) dX5_add_31 (by decide) ?_
    refine v_zret dX5_add_32 rfl (by decide) (Nat.le_refl _) (Nat.le_refl _) ?_
    exact ⟨rfl, Or.inr ⟨b6, rfl, ⟨wu_eq _ _ _, (wu_ne _ _ (by omega)).trans (wu_eq _ _ _), by omega⟩, ((fr.rf t 2 w).wu _ (by omega) (by omega)).wu _ (by omega) (by omega)⟩⟩
  ·
    refine v_iconst (v := nI 0) dX5_add_9 (by decide) ?_
    refine v_zret dX5_add_10 rfl (by decide) (Nat.le_refl _) (Nat.le_refl _) ?_
    exact ⟨rfl, Or.inl ⟨by omega, rfl, rfl⟩⟩
set_option maxHeartbeats 2000000 in
set_option maxRecDepth 100000 in
theorem c_fault5 {w : Wd} {t tn : Nat} {tx : Nat → Int32} (h : TO w t tx tn) : Rd mX5_fault 0 [.ref t] w (some (.int (flt tx tn))) := by
  intro sz
  refine Ev.ofV [some (.ref t), none, none, none, none, none] (by decide) (Nat.le_of_ble_eq_true rfl) rfl rfl rfl ?_
  have ht := h.2.2
  have hfl := fst_le (fun k => !okc tx k) tn
  refine v_iconst (v := nI 0) dX5_fault_0 (by decide) ?_
  refine v_istore_n dX5_fault_1 (by decide) rfl ?_
  refine v_iconst (v := nI 0) dX5_fault_2 (by decide) ?_
  refine v_istore_n dX5_fault_3 (by decide) rfl ?_
  have LP4 : ∀ i, i ≤ fst (fun k => !okc tx k) tn → V mX5_fault 0 0 0 (fun r' w' zz => r' = some (.int (flt tx tn)) ∧ w' = w ∧ zz = sz) (w) (sz) (0) (0) [some (.ref t), some (.int (b2i (isw tx i))), some (.int (nI i)), none, none, none] [] 4 := by
    refine dn (fun i hi ih => ?_)
    refine v_iload_n dX5_fault_4 rfl ?_
    refine v_aload_n dX5_fault_5 rfl ?_
    refine v_get 1 dX5_fault_6 FTX5 (by decide) rfl fl_X5_15 h.1 rfl ?_
    refine v_icmp_geN (tgt := 76) dX5_fault_9 (by decide) (by omega) (by omega) (fun b9 => ?_) (fun b9 => ?_)
    ·
      have e1 : i = tn := by omega
      have e2 : fst (fun k => !okc tx k) tn = tn := by omega
      refine v_iload_n dX5_fault_76 rfl ?_
      refine v_if_eqB (tgt := 84) dX5_fault_77 (by decide) (fun b77 => ?_) (fun b77 => ?_)
      ·
        refine v_aload_n dX5_fault_84 rfl ?_
        refine v_get 1 dX5_fault_85 FTX5 (by decide) rfl fl_X5_15 h.1 rfl ?_
        refine v_iret dX5_fault_88 rfl (Nat.le_refl _) (Nat.le_refl _) ?_
        exact ⟨by unfold flt; rw [if_neg (by omega), if_neg (by rw [← e1, b77]; decide)], rfl, rfl⟩
      ·
        refine v_iconst (v := -1) dX5_fault_80 (by decide) ?_
        refine v_goto (tgt := 88) dX5_fault_81 (by decide) ?_
        refine v_iret dX5_fault_88 rfl (Nat.le_refl _) (Nat.le_refl _) ?_
        exact ⟨by unfold flt; rw [if_neg (by omega), if_pos (by rw [← e1, b77])], rfl, rfl⟩
    ·
      refine v_aload_n dX5_fault_12 rfl ?_
      refine v_get 0 dX5_fault_13 FTX5 (by decide) rfl fl_X5_9 h.1 rfl ?_
      refine v_iload_n dX5_fault_16 rfl ?_
      refine v_cald _ dX5_fault_17 h.2.1 rfl (by omega) (by decide) ?_
      refine v_istore_n dX5_fault_18 (by decide) rfl ?_
      have J36 : ∀ c : Bool, c = ltr (tx i) → V mX5_fault 0 0 0 (fun r' w' zz => r' = some (.int (flt tx tn)) ∧ w' = w ∧ zz = sz) (w) (sz) (0) (0) [some (.ref t), some (.int (b2i (isw tx i))), some (.int (nI i)), some (.int (tx i)), none, none] [.int (b2i c)] 36 := by
        intro c hc
        refine v_istore dX5_fault_36 (by decide) rfl ?_
        have J53 : ∀ g : Bool, g = (bl tx i && isw tx i) → V mX5_fault 0 0 0 (fun r' w' zz => r' = some (.int (flt tx tn)) ∧ w' = w ∧ zz = sz) (w) (sz) (0) (0) [some (.ref t), some (.int (b2i (isw tx i))), some (.int (nI i)), some (.int (tx i)), some (.int (b2i c)), none] [.int (b2i g)] 53 := by
          intro g hg
          refine v_istore dX5_fault_53 (by decide) rfl ?_
          refine v_iload dX5_fault_55 rfl ?_
          refine v_if_neB (tgt := 67) dX5_fault_57 (by decide) (fun b57 => ?_) (fun b57 => ?_)
          ·
            have q5 : i < fst (fun k => !okc tx k) tn := by
              rcases Nat.lt_or_ge i (fst (fun k => !okc tx k) tn) with h1 | h1
              · exact h1
              · have h2 := fst_yes (fun k => !okc tx k) tn (by omega)
                rw [show fst (fun k => !okc tx k) tn = i by omega] at h2
                simp [okc, ← hc, b57] at h2
            rw [hc]
            refine v_iload dX5_fault_67 rfl ?_
            refine v_istore_n dX5_fault_69 (by decide) rfl ?_
            refine v_iincN dX5_fault_70 (by decide) rfl rfl rfl ?_
            refine v_goto (tgt := 4) dX5_fault_73 (by decide) ?_
            refine v_drop 3 ?_
            refine v_drop 4 ?_
            refine v_drop 5 ?_
            exact ih q5
          ·
            refine v_iload dX5_fault_60 rfl ?_
            refine v_if_neB (tgt := 67) dX5_fault_62 (by decide) (fun b62 => ?_) (fun b62 => ?_)
            ·
              have q5 : i < fst (fun k => !okc tx k) tn := by
                rcases Nat.lt_or_ge i (fst (fun k => !okc tx k) tn) with h1 | h1
                · exact h1
                · have h2 := fst_yes (fun k => !okc tx k) tn (by omega)
                  rw [show fst (fun k => !okc tx k) tn = i by omega] at h2
                  simp [okc, ← hc, ← hg, b62] at h2
              rw [hc]
              refine v_iload dX5_fault_67 rfl ?_
              refine v_istore_n dX5_fault_69 (by decide) rfl ?_
              refine v_iincN dX5_fault_70 (by decide) rfl rfl rfl ?_
              refine v_goto (tgt := 4) dX5_fault_73 (by decide) ?_
              refine v_drop 3 ?_
              refine v_drop 4 ?_
              refine v_drop 5 ?_
              exact ih q5
            ·
              have q6 : fst (fun k => !okc tx k) tn = i := by
                rcases Nat.lt_or_ge i (fst (fun k => !okc tx k) tn) with h1 | h1
                · have h2 := fst_no _ _ _ h1
                  simp [okc, ← hc, ← hg, b57, b62] at h2
                · omega
              refine v_iload_n dX5_fault_65 rfl ?_
              refine v_iret dX5_fault_66 rfl (Nat.le_refl _) (Nat.le_refl _) ?_
              exact ⟨by unfold flt; rw [q6, if_pos (by omega)], rfl, rfl⟩
        refine v_iload_n dX5_fault_38 rfl ?_
        refine v_bipush (v := nI 32) dX5_fault_39 (by decide) ?_
        refine v_icmp_ne (tgt := 52) dX5_fault_41 (by decide) (fun b41 => ?_) (fun b41 => ?_)
        ·
          refine v_iconst (v := nI 0) dX5_fault_52 (by decide) ?_
          exact J53 false (by simp [bl, b41])
        ·
          refine v_iload_n dX5_fault_44 rfl ?_
          refine v_if_eqB (tgt := 52) dX5_fault_45 (by decide) (fun b45 => ?_) (fun b45 => ?_)
          ·
            refine v_iconst (v := nI 0) dX5_fault_52 (by decide) ?_
            exact J53 false (by simp [b45])
          ·
            refine v_iconst (v := nI 1) dX5_fault_48 (by decide) ?_
            refine v_goto (tgt := 53) dX5_fault_49 (by decide) ?_
            exact J53 true (by simp [bl, b41, b45])
      refine v_iload_n dX5_fault_19 rfl ?_
      refine v_bipush (v := nI 97) dX5_fault_20 (by decide) ?_
      refine v_icmp_lt (tgt := 35) dX5_fault_22 (by decide) (fun b22 => ?_) (fun b22 => ?_)
      ·
        refine v_iconst (v := nI 0) dX5_fault_35 (by decide) ?_
        exact J36 false (by simp only [ltr]; symm; rw [decide_eq_false_iff_not]; exact fun z => Int32.not_lt.mpr z.1 b22)
      ·
        refine v_iload_n dX5_fault_25 rfl ?_
        refine v_bipush (v := nI 122) dX5_fault_26 (by decide) ?_
        refine v_icmp_gt (tgt := 35) dX5_fault_28 (by decide) (fun b28 => ?_) (fun b28 => ?_)
        ·
          refine v_iconst (v := nI 0) dX5_fault_35 (by decide) ?_
          exact J36 false (by simp only [ltr]; symm; rw [decide_eq_false_iff_not]; exact fun z => Int32.not_lt.mpr z.2 b28)
        ·
          refine v_iconst (v := nI 1) dX5_fault_31 (by decide) ?_
          refine v_goto (tgt := 36) dX5_fault_32 (by decide) ?_
          exact J36 true (by simp only [ltr]; symm; rw [decide_eq_true_eq]; exact ⟨Int32.not_lt.mp b22, Int32.not_lt.mp b28⟩)
  exact LP4 0 (Nat.zero_le _)
set_option maxHeartbeats 2000000 in
set_option maxRecDepth 100000 in
theorem c_readFrom {w : Wd} {a n t tn : Nat} {f tx : Nat → Int32} (h1 : WO w a f n) (h : TO w t tx tn) (hk : okT tx tn) (hd : a + 3 ≤ t ∨ t + 2 ≤ a) : Wr mX6_readFrom 1 [.ref a, .ref t] w (fun r' w' => r' = none ∧ WO w' a tx tn ∧ fr a 3 w w') := by
  intro sz
  refine Ev.ofV [some (.ref a), some (.ref t), none, none] (by decide) (Nat.le_of_ble_eq_true rfl) rfl rfl rfl ?_
  obtain ⟨aL, as, a1, a2, a3, a4, a5, a6, a7⟩ := h1
  have ht := h.2.2
  have hnw := bgn_nw hk
  have nb := okT_nw30 (Or.inr hk) ht
  refine v_aload_n dX6_readFrom_0 rfl ?_
  refine v_aload_n dX6_readFrom_1 rfl ?_
  refine v_get 1 dX6_readFrom_2 FTX5 (by decide) rfl fl_X6_26 h.1 rfl ?_
  refine v_put 1 dX6_readFrom_5 FTX6 (by decide) rfl fl_X6_19 a1 rfl rfl (Nat.le_of_ble_eq_true rfl) rfl ?_
  refine v_aload_n dX6_readFrom_8 rfl ?_
  refine v_get 0 dX6_readFrom_9 FTX5 (by decide) rfl fl_X6_29 ((wu_ne _ _ (by omega)).trans h.1) rfl ?_
  refine v_iconst (v := nI 0) dX6_readFrom_12 (by decide) ?_
  refine v_aload_n dX6_readFrom_13 rfl ?_
  refine v_get 0 dX6_readFrom_14 FTX6 (by decide) rfl fl_X6_9 (wu_eq _ _ _) rfl ?_
  refine v_iconst (v := nI 0) dX6_readFrom_17 (by decide) ?_
  refine v_aload_n dX6_readFrom_18 rfl ?_
  refine v_get 1 dX6_readFrom_19 FTX6 (by decide) rfl fl_X6_19 (wu_eq _ _ _) rfl ?_
  refine v_copy (t := 0) (n := tn) (by decide) dX6_readFrom_22 ml_X6_32 ((wu_ne _ _ (by omega)).trans h.2.1) ((wu_ne _ _ (by omega)).trans a2) (by omega) (by omega) (by decide) (fun i hi => okc_fits (hk.2.1 i hi)) (by decide) (Nat.le_of_ble_eq_true rfl) ?_
  refine v_aload_n dX6_readFrom_25 rfl ?_
  refine v_iconst (v := nI 0) dX6_readFrom_26 (by decide) ?_
  refine v_put 3 dX6_readFrom_27 FTX6 (by decide) rfl fl_X6_23 ((wu_ne _ _ (by omega)).trans (wu_eq _ _ _)) rfl rfl (Nat.le_of_ble_eq_true rfl) rfl ?_
  refine v_gen (fun w' => (w' a = some (ob 6 [.ref (a + 1), .int (nI tn), .ref (a + 2), .int (nI (cnt (bgn tx) 0))]) ∧ w' (a + 1) = some (ia 0 60 (fun k => if k < tn then tx k else aL k)) ∧ (∃ sT, w' (a + 2) = some (ia 1 31 sT) ∧ ∀ j, j < cnt (bgn tx) 0 → sT j = nI (beg tx tn j)) ∧ fr a 3 w w')) ⟨by rw [wu_eq]; rfl, (wu_ne _ _ (by omega)).trans (wu_eq _ _ _), ⟨as, (wu_ne _ _ (by omega)).trans ((wu_ne _ _ (by omega)).trans ((wu_ne _ _ (by omega)).trans a3)), fun j hj => absurd hj (Nat.not_lt_zero _)⟩, (((fr.rf a 3 w).wu _ (by omega) (by omega)).wu _ (by omega) (by omega)).wu _ (by omega) (by omega)⟩ (fun w1 hI0 => ?_)
  refine v_iconst (v := nI 0) dX6_readFrom_30 (by decide) ?_
  refine v_istore_n dX6_readFrom_31 (by decide) rfl ?_
  have LP32 : ∀ i, i ≤ tn → ∀ w2 : Wd, (w2 a = some (ob 6 [.ref (a + 1), .int (nI tn), .ref (a + 2), .int (nI (cnt (bgn tx) i))]) ∧ w2 (a + 1) = some (ia 0 60 (fun k => if k < tn then tx k else aL k)) ∧ (∃ sT, w2 (a + 2) = some (ia 1 31 sT) ∧ ∀ j, j < cnt (bgn tx) i → sT j = nI (beg tx tn j)) ∧ fr a 3 w w2) → V mX6_readFrom 1 0 0 (fun r' w' zz => zz = sz ∧ (r' = none ∧ WO w' a tx tn ∧ fr a 3 w w')) (w2) (sz) (0) (0) [some (.ref a), some (.ref t), some (.int (nI i)), none] [] 32 := by
    refine dn (fun i hi ih => ?_)
    intro w2 hI
    obtain ⟨c1, c2, ⟨sT, c3, c4⟩, c5⟩ := hI
    have hcm := cnt_mono (bgn tx) hi
    refine v_iload_n dX6_readFrom_32 rfl ?_
    refine v_aload_n dX6_readFrom_33 rfl ?_
    refine v_get 1 dX6_readFrom_34 FTX6 (by decide) rfl fl_X6_19 c1 rfl ?_
    refine v_icmp_geN (tgt := 102) dX6_readFrom_37 (by decide) (by omega) (by omega) (fun b37 => ?_) (fun b37 => ?_)
    ·
      have e1 : i = tn := by omega
      subst e1
      refine v_aload_n dX6_readFrom_102 rfl ?_
      refine v_get 2 dX6_readFrom_103 FTX6 (by decide) rfl fl_X6_15 c1 rfl ?_
      refine v_aload_n dX6_readFrom_106 rfl ?_
      refine v_get 3 dX6_readFrom_107 FTX6 (by decide) rfl fl_X6_23 c1 rfl ?_
      refine v_aload_n dX6_readFrom_110 rfl ?_
      refine v_get 1 dX6_readFrom_111 FTX6 (by decide) rfl fl_X6_19 c1 rfl ?_
      refine v_iconst (v := nI 1) dX6_readFrom_114 (by decide) ?_
      refine v_iaddN dX6_readFrom_115 ?_
      refine v_iast _ dX6_readFrom_116 c3 rfl (by omega) (by decide) ?_
      refine v_ret dX6_readFrom_117 rfl (Nat.le_refl _) (Nat.le_refl _) ?_
      exact ⟨rfl, rfl, ⟨_, _, (wu_ne _ _ (by omega)).trans (by rw [← hnw]; exact c1), (wu_ne _ _ (by omega)).trans c2, wu_eq _ _ _, h.2.2, Or.inr hk, fun k hk => if_pos hk, fun hn j hj => by
        by_cases e : j = cnt (bgn tx) i
        · rw [e, up_eq, hnw, beg_nw hn]
        · rw [up_ne _ _ e, c4 j (by omega)]⟩, c5.wu _ (by omega) (by omega)⟩
    ·
      have J62 : ∀ c : Bool, c = bgn tx i → V mX6_readFrom 1 0 0 (fun r' w' zz => zz = sz ∧ (r' = none ∧ WO w' a tx tn ∧ fr a 3 w w')) (w2) (sz) (0) (0) [some (.ref a), some (.ref t), some (.int (nI i)), none] [.int (b2i c)] 62 := by
        intro c hc
        refine v_istore_n dX6_readFrom_62 (by decide) rfl ?_
        refine v_iload_n dX6_readFrom_63 rfl ?_
        refine v_if_eqB (tgt := 96) dX6_readFrom_64 (by decide) (fun b64 => ?_) (fun b64 => ?_)
        ·
          have hb : bgn tx i = false := by rw [← hc]; exact b64
          refine v_iincN dX6_readFrom_96 (by decide) rfl rfl rfl ?_
          refine v_goto (tgt := 32) dX6_readFrom_99 (by decide) ?_
          refine v_drop 3 ?_
          exact ih (by omega) w2 ⟨by rw [cnt_S0 hb]; exact c1, c2, ⟨sT, c3, by rw [cnt_S0 hb]; exact c4⟩, c5⟩
        ·
          have hb : bgn tx i = true := by rw [← hc]; exact b64
          have hcm1 := cnt_mono (bgn tx) (show i + 1 ≤ tn by omega)
          rw [cnt_S hb] at hcm1
          refine v_aload_n dX6_readFrom_67 rfl ?_
          refine v_get 3 dX6_readFrom_68 FTX6 (by decide) rfl fl_X6_23 c1 rfl ?_
          refine v_bipush (v := nI 30) dX6_readFrom_71 (by decide) ?_
          refine v_icmp_geN (tgt := 96) dX6_readFrom_73 (by decide) (by omega) (by omega) (fun b73 => ?_) (fun b73 => ?_)
          ·
            exact absurd b73 (by omega)
          ·
            refine v_aload_n dX6_readFrom_76 rfl ?_
            refine v_get 2 dX6_readFrom_77 FTX6 (by decide) rfl fl_X6_15 c1 rfl ?_
            refine v_aload_n dX6_readFrom_80 rfl ?_
            refine v_get 3 dX6_readFrom_81 FTX6 (by decide) rfl fl_X6_23 c1 rfl ?_
            refine v_iload_n dX6_readFrom_84 rfl ?_
            refine v_iast _ dX6_readFrom_85 c3 rfl (by omega) (by decide) ?_
            refine v_aload_n dX6_readFrom_86 rfl ?_
            refine v_dup dX6_readFrom_87 rfl ?_
            refine v_get 3 dX6_readFrom_88 FTX6 (by decide) rfl fl_X6_23 ((wu_ne _ _ (by omega)).trans c1) rfl ?_
            refine v_iconst (v := nI 1) dX6_readFrom_91 (by decide) ?_
            refine v_iaddN dX6_readFrom_92 ?_
            refine v_put 3 dX6_readFrom_93 FTX6 (by decide) rfl fl_X6_23 ((wu_ne _ _ (by omega)).trans c1) rfl rfl (Nat.le_of_ble_eq_true rfl) rfl ?_
            refine v_iincN dX6_readFrom_96 (by decide) rfl rfl rfl ?_
            refine v_goto (tgt := 32) dX6_readFrom_99 (by decide) ?_
            refine v_drop 3 ?_
            exact ih (by omega) _ ⟨by rw [wu_eq, cnt_S hb]; rfl, (wu_ne _ _ (by omega)).trans ((wu_ne _ _ (by omega)).trans c2), ⟨_, (wu_ne _ _ (by omega)).trans (wu_eq _ _ _), fun j hj => by
              rw [cnt_S hb] at hj
              by_cases e : j = cnt (bgn tx) i
              · rw [e, up_eq, bgn_beg (by omega) hb]
              · rw [up_ne _ _ e, c4 j (by omega)]⟩, (c5.wu _ (by omega) (by omega)).wu _ (by omega) (by omega)⟩
      refine v_iload_n dX6_readFrom_40 rfl ?_
      refine v_if_eqN (tgt := 57) dX6_readFrom_41 (by decide) (by omega) (fun b41 => ?_) (fun b41 => ?_)
      ·
        refine v_iconst (v := nI 1) dX6_readFrom_57 (by decide) ?_
        refine v_goto (tgt := 62) dX6_readFrom_58 (by decide) ?_
        exact J62 true (by simp [bgn, b41])
      ·
        refine v_aload_n dX6_readFrom_44 rfl ?_
        refine v_get 0 dX6_readFrom_45 FTX6 (by decide) rfl fl_X6_9 c1 rfl ?_
        refine v_iload_n dX6_readFrom_48 rfl ?_
        refine v_iconst (v := nI 1) dX6_readFrom_49 (by decide) ?_
        refine v_isubN dX6_readFrom_50 (by omega) ?_
        refine v_caldE _ dX6_readFrom_51 c2 rfl (by omega) (by decide) (if_pos (by omega)) ?_
        refine v_bipush (v := nI 32) dX6_readFrom_52 (by decide) ?_
        refine v_icmp_ne (tgt := 61) dX6_readFrom_54 (by decide) (fun b54 => ?_) (fun b54 => ?_)
        ·
          refine v_iconst (v := nI 0) dX6_readFrom_61 (by decide) ?_
          exact J62 false (by simp [bgn, bl, b41, b54])
        ·
          refine v_iconst (v := nI 1) dX6_readFrom_57 (by decide) ?_
          refine v_goto (tgt := 62) dX6_readFrom_58 (by decide) ?_
          exact J62 true (by simp [bgn, bl, b54])
  exact LP32 0 (Nat.zero_le _) w1 hI0
theorem hnX6 : ∀ j, j < 4 → defaultValue (tyX6 j) = vp_V [.null, .int 0, .null, .int 0] j := by decide
theorem hnX5 : ∀ j, j < 2 → defaultValue (tyX5 j) = vp_V [.null, .int 0] j := by decide
set_option maxHeartbeats 2000000 in
set_option maxRecDepth 100000 in
theorem c_X6init {w : Wd} {a sz : Nat} (hsz : sz = a + 1) (h0 : w a = some (ob 6 [.null, .int 0, .null, .int 0])) : Ev mX6_init 1 [.ref a] w sz 2 91 (fun r' w' zz => r' = none ∧ zz = a + 3 ∧ (∀ g, WO w' a g 0) ∧ fr a 3 w w') := by
  refine Ev.ofV [some (.ref a)] (by decide) (Nat.le_of_ble_eq_true rfl) rfl rfl rfl ?_
  refine v_aload_n dX6_init_0 rfl ?_
  refine v_objInit dX6_init_1 ml_X6_3 (by decide) (Nat.le_of_ble_eq_true rfl) ?_
  refine v_aload_n dX6_init_4 rfl ?_
  refine v_bipush (v := nI 60) dX6_init_5 (by decide) ?_
  refine v_newarr (t := 0) (by decide) dX6_init_7 rfl (by decide) (by omega) (by omega) ?_
  refine v_putF 0 dX6_init_9 FTX6 (by decide) rfl fl_X6_9 ((wu_ne _ _ (by omega)).trans h0) rfl rfl (Nat.le_of_ble_eq_true rfl) rfl rfl rfl ?_
  refine v_aload_n dX6_init_12 rfl ?_
  refine v_bipush (v := nI 31) dX6_init_13 (by decide) ?_
  refine v_newarr (t := 1) (by decide) dX6_init_15 rfl (by decide) (by omega) (by omega) ?_
  refine v_putF 2 dX6_init_17 FTX6 (by decide) rfl fl_X6_15 ((wu_ne _ _ (by omega)).trans (wu_eq _ _ _)) rfl rfl (Nat.le_of_ble_eq_true rfl) rfl rfl rfl ?_
  refine v_ret dX6_init_20 rfl (by omega) (by omega) ?_
  exact ⟨rfl, by omega, fun g => ⟨fun _ => 0, fun _ => 0, by rw [wu_eq, nw_0, hsz]; rfl, by rw [wu_ne _ _ (by omega), wu_ne _ _ (by omega), wu_ne _ _ (by omega), hsz, wu_eq], by rw [wu_ne _ _ (by omega), hsz]; exact wu_eq _ _ _, by omega, Or.inl rfl, fun k h => absurd h (Nat.not_lt_zero _), fun h => absurd h (Nat.lt_irrefl _)⟩, ((((fr.rf a 3 w).wu _ (by omega) (by omega)).wu _ (by omega) (by omega)).wu _ (by omega) (by omega)).wu _ (by omega) (by omega)⟩
set_option maxHeartbeats 2000000 in
set_option maxRecDepth 100000 in
theorem c_X5init {w : Wd} {a sz : Nat} (hsz : sz = a + 1) (h0 : w a = some (ob 5 [.null, .int 0])) : Ev mX5_init 1 [.ref a] w sz 1 60 (fun r' w' zz => r' = none ∧ zz = a + 2 ∧ TO w' a (fun _ => 0) 0 ∧ fr a 2 w w') := by
  refine Ev.ofV [some (.ref a)] (by decide) (Nat.le_of_ble_eq_true rfl) rfl rfl rfl ?_
  refine v_aload_n dX5_init_0 rfl ?_
  refine v_objInit dX5_init_1 ml_X5_3 (by decide) (Nat.le_of_ble_eq_true rfl) ?_
  refine v_aload_n dX5_init_4 rfl ?_
  refine v_bipush (v := nI 60) dX5_init_5 (by decide) ?_
  refine v_newarr (t := 0) (by decide) dX5_init_7 rfl (by decide) (by omega) (by omega) ?_
  refine v_putF 0 dX5_init_9 FTX5 (by decide) rfl fl_X5_9 ((wu_ne _ _ (by omega)).trans h0) rfl rfl (Nat.le_of_ble_eq_true rfl) rfl rfl rfl ?_
  refine v_ret dX5_init_12 rfl (by omega) (by omega) ?_
  exact ⟨rfl, by omega, ⟨by rw [wu_eq, hsz]; rfl, by rw [wu_ne _ _ (by omega), hsz, wu_eq], by omega⟩, ((fr.rf a 2 w).wu _ (by omega) (by omega)).wu _ (by omega) (by omega)⟩
