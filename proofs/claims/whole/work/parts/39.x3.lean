/-- the object at a holds the rewrite in place k of g -/
def RwR (w : Wd) (a : Nat) (g : Nat → Int32) (k V : Nat) : Prop := RO w a (g (1808 + 65 * k)) (g (1808 + 65 * k + 1)) (g (1808 + 65 * k + 2)) (g (1808 + 65 * k + 3)) (nI V) (sft g (1808 + 65 * k + 5)) (nt (g (1808 + 65 * k + 4))) ∧ V < 1024 ∧ ∀ v, v < 10 → V.testBit v = (g (32 + 24 * v + nt (g (1808 + 65 * k + 1))) == g (1808 + 65 * k))
def RP (π : Nat → Nat) : Prop := (∀ i, i < 16 → π i < 16) ∧ ∀ i j, i < 16 → j < 16 → π i = π j → i = j
/-- the rewrites at a are those of g -/
def RR (w : Wd) (a : Nat) (g : Nat → Int32) (n : Nat) (π κ : Nat → Nat) : Prop := (∃ F, w a = some (ob 3 [.ref (a + 1), .int (nI n), .int (g 18)]) ∧ w (a + 1) = some (ra 3 16 F) ∧ ∀ i, i < 16 → F i = some (a + 2 + 4 * π i)) ∧ KR g n κ ∧ RP π ∧ (∀ j, j < 16 → ∃ x1 x2 x3 x4 x5 f m, RO w (a + 2 + 4 * j) x1 x2 x3 x4 x5 f m) ∧ ∀ i, i < n → ∃ V, RwR w (a + 2 + 4 * π i) g (κ i) V
theorem RwR.fr {w w' : Wd} {a k V : Nat} {g : Nat → Int32} (h : RwR w a g k V) (e : ∀ q, a ≤ q → q < a + 4 → w' q = w q) : RwR w' a g k V := ⟨h.1.fr e, h.2⟩
theorem RwR.congr {w : Wd} {a k V : Nat} {g s : Nat → Int32} (h : RwR w a g k V) (e : ∀ q, 1808 + 65 * k ≤ q → q < 1808 + 65 * k + 65 → s q = g q) (hb : ∀ v, v < 10 → (s (32 + 24 * v + nt (g (1808 + 65 * k + 1))) == g (1808 + 65 * k)) = (g (32 + 24 * v + nt (g (1808 + 65 * k + 1))) == g (1808 + 65 * k))) : RwR w a s k V := by
  obtain ⟨⟨h1, h2⟩, h3, h4⟩ := h
  have hz := h2.sz.2
  unfold RwR
  rw [e (1808 + 65 * k) (by omega) (by omega), e (1808 + 65 * k + 1) (by omega) (by omega), e (1808 + 65 * k + 2) (by omega) (by omega), e (1808 + 65 * k + 3) (by omega) (by omega), e (1808 + 65 * k + 4) (by omega) (by omega)]
  exact ⟨⟨h1, h2.congr (fun i hi => e (1808 + 65 * k + 5 + i) (by omega) (by omega))⟩, h3, fun v hv => by rw [hb v hv]; exact h4 v hv⟩
theorem RwR.vf {w : Wd} {a k V : Nat} {g : Nat → Int32} (h : RwR w a g k V) (hW : WS g) (hV : VI g) (hD : DI g) (hk : k < 16) (h0 : 0 ≤ g (1808 + 65 * k)) : pcn V = vfk g k := vfk_eq hW hV hD hk h0 h.2.2
/-- a value for a row or none -/
def rvO (a : Nat) (π : Nat → Nat) (b : Option Nat) : Value := match b with | none => .null | some j => .ref (a + 2 + 4 * π j)
def fsO (p : Nat → Bool) (n : Nat) : Option Nat := if fst p n < n then some (fst p n) else none
theorem fsO_S {p : Nat → Bool} {n i : Nat} (hi : i < n) (h : p i = true) (h2 : ∀ j, j < i → p j = false) : fsO p n = some i := by
  unfold fsO
  rw [fst_eq hi h h2, if_pos hi]
theorem fsO_N {p : Nat → Bool} {n : Nat} (h : ∀ j, j < n → p j = false) : fsO p n = none := by
  unfold fsO
  rw [fst_none h, if_neg (Nat.lt_irrefl _)]
set_option maxHeartbeats 2000000 in
set_option maxRecDepth 100000 in
theorem c_handedInBy {w : Wd} {a n : Nat} {g : Nat → Int32} {π κ : Nat → Nat} (h : RR w a g n π κ) (x : Int32) : Rd mX3_handedInBy 0 [.ref a, .int x] w (some (.int (nI (cnt (fun i => g (1808 + 65 * κ i + 2) == x) n)))) := by
  intro sz
  refine Ev.ofV [some (.ref a), some (.int x), none, none] (by decide) (Nat.le_of_ble_eq_true rfl) rfl rfl rfl ?_
  obtain ⟨⟨F, r1, r2, r3⟩, hK, hP, hS, hR⟩ := h
  have hn := hK.1
  refine v_iconst (v := nI 0) dX3_handedInBy_0 (by decide) ?_
  refine v_istore_n dX3_handedInBy_1 (by decide) rfl ?_
  refine v_iconst (v := nI 0) dX3_handedInBy_2 (by decide) ?_
  refine v_istore_n dX3_handedInBy_3 (by decide) rfl ?_
  have LP4 : ∀ i, i ≤ n → V mX3_handedInBy 0 0 0 (fun r' w' zz => r' = some (.int (nI (cnt (fun i => g (1808 + 65 * κ i + 2) == x) n))) ∧ w' = w ∧ zz = sz) (w) (sz) (0) (0) [some (.ref a), some (.int x), some (.int (nI (cnt (fun i => g (1808 + 65 * κ i + 2) == x) i))), some (.int (nI i))] [] 4 := by
    refine dn (fun i hi ih => ?_)
    refine v_iload_n dX3_handedInBy_4 rfl ?_
    refine v_aload_n dX3_handedInBy_5 rfl ?_
    refine v_get 1 dX3_handedInBy_6 FTX3 (by decide) rfl fl_X3_18 r1 rfl ?_
    refine v_icmp_geN (tgt := 34) dX3_handedInBy_9 (by decide) (by omega) (by omega) (fun b9 => ?_) (fun b9 => ?_)
    ·
      have e1 : i = n := by omega
      subst e1
      refine v_iload_n dX3_handedInBy_34 rfl ?_
      refine v_iret dX3_handedInBy_35 rfl (Nat.le_refl _) (Nat.le_refl _) ?_
      exact ⟨rfl, rfl, rfl⟩
    ·
      obtain ⟨V, hr, hV, hb⟩ := hR i (by omega)
      refine v_aload_n dX3_handedInBy_12 rfl ?_
      refine v_get 0 dX3_handedInBy_13 FTX3 (by decide) rfl fl_X3_11 r1 rfl ?_
      refine v_iload_n dX3_handedInBy_16 rfl ?_
      refine v_aald _ (by decide) dX3_handedInBy_17 r2 rfl (by omega) (by decide) (r3 i (by omega)) ?_
      refine v_get 3 dX3_handedInBy_18 FTX2 (by decide) rfl fl_X3_44 hr.1 rfl ?_
      refine v_iload_n dX3_handedInBy_21 rfl ?_
      refine v_icmp_ne (tgt := 28) dX3_handedInBy_22 (by decide) (fun b22 => ?_) (fun b22 => ?_)
      ·
        refine v_iincN dX3_handedInBy_28 (by decide) rfl rfl rfl ?_
        refine v_goto (tgt := 4) dX3_handedInBy_31 (by decide) ?_
        refine v_eqL ?_ (ih (by omega))
        simp [st, cnt, b22]
      ·
        refine v_iincN dX3_handedInBy_25 (by decide) rfl rfl rfl ?_
        refine v_iincN dX3_handedInBy_28 (by decide) rfl rfl rfl ?_
        refine v_goto (tgt := 4) dX3_handedInBy_31 (by decide) ?_
        refine v_eqL ?_ (ih (by omega))
        simp [st, cnt, b22]
  exact LP4 0 (Nat.zero_le _)
set_option maxHeartbeats 2000000 in
set_option maxRecDepth 100000 in
theorem c_votesOf3 {w : Wd} {a n : Nat} {g : Nat → Int32} {π κ : Nat → Nat} (h : RR w a g n π κ) (v : Nat) (hv : v < 10) : Rd mX3_votesOf 1 [.ref a, .int (nI v)] w (some (.int (nI (cnt (fun i => g (32 + 24 * v + nt (g (1808 + 65 * κ i + 1))) == g (1808 + 65 * κ i)) n)))) := by
  intro sz
  refine Ev.ofV [some (.ref a), some (.int (nI v)), none, none] (by decide) (Nat.le_of_ble_eq_true rfl) rfl rfl rfl ?_
  obtain ⟨⟨F, r1, r2, r3⟩, hK, hP, hS, hR⟩ := h
  have hn := hK.1
  refine v_iconst (v := nI 0) dX3_votesOf_0 (by decide) ?_
  refine v_istore_n dX3_votesOf_1 (by decide) rfl ?_
  refine v_iconst (v := nI 0) dX3_votesOf_2 (by decide) ?_
  refine v_istore_n dX3_votesOf_3 (by decide) rfl ?_
  have LP4 : ∀ i, i ≤ n → V mX3_votesOf 1 0 0 (fun r' w' zz => r' = some (.int (nI (cnt (fun i => g (32 + 24 * v + nt (g (1808 + 65 * κ i + 1))) == g (1808 + 65 * κ i)) n))) ∧ w' = w ∧ zz = sz) (w) (sz) (0) (0) [some (.ref a), some (.int (nI v)), some (.int (nI (cnt (fun i => g (32 + 24 * v + nt (g (1808 + 65 * κ i + 1))) == g (1808 + 65 * κ i)) i))), some (.int (nI i))] [] 4 := by
    refine dn (fun i hi ih => ?_)
    refine v_iload_n dX3_votesOf_4 rfl ?_
    refine v_aload_n dX3_votesOf_5 rfl ?_
    refine v_get 1 dX3_votesOf_6 FTX3 (by decide) rfl fl_X3_18 r1 rfl ?_
    refine v_icmp_geN (tgt := 34) dX3_votesOf_9 (by decide) (by omega) (by omega) (fun b9 => ?_) (fun b9 => ?_)
    ·
      have e1 : i = n := by omega
      subst e1
      refine v_iload_n dX3_votesOf_34 rfl ?_
      refine v_iret dX3_votesOf_35 rfl (Nat.le_refl _) (Nat.le_refl _) ?_
      exact ⟨rfl, rfl, rfl⟩
    ·
      obtain ⟨V, hr, hV, hb⟩ := hR i (by omega)
      refine v_aload_n dX3_votesOf_12 rfl ?_
      refine v_get 0 dX3_votesOf_13 FTX3 (by decide) rfl fl_X3_11 r1 rfl ?_
      refine v_iload_n dX3_votesOf_16 rfl ?_
      refine v_aald _ (by decide) dX3_votesOf_17 r2 rfl (by omega) (by decide) (r3 i (by omega)) ?_
      refine v_iload_n dX3_votesOf_18 rfl ?_
      refine u_rV1 oX2_hasVoteOf dX3_votesOf_19 ml_X3_78 (c_hasVoteOf hr hV v hv) hr.1 (by decide) (Nat.le_of_ble_eq_true rfl) (Nat.le_refl _) (Nat.le_refl _) ?_
      refine v_if_eqB (tgt := 28) dX3_votesOf_22 (by decide) (fun b22 => ?_) (fun b22 => ?_)
      ·
        refine v_iincN dX3_votesOf_28 (by decide) rfl rfl rfl ?_
        refine v_goto (tgt := 4) dX3_votesOf_31 (by decide) ?_
        refine v_eqL ?_ (ih (by omega))
        simp only [st, cnt, ← hb v hv, b22]
        rfl
      ·
        refine v_iincN dX3_votesOf_25 (by decide) rfl rfl rfl ?_
        refine v_iincN dX3_votesOf_28 (by decide) rfl rfl rfl ?_
        refine v_goto (tgt := 4) dX3_votesOf_31 (by decide) ?_
        refine v_eqL ?_ (ih (by omega))
        simp only [st, cnt, ← hb v hv, b22]
        rfl
  exact LP4 0 (Nat.zero_le _)
set_option maxHeartbeats 2000000 in
set_option maxRecDepth 100000 in
theorem c_allVotes3 {w : Wd} {a n : Nat} {g : Nat → Int32} {π κ : Nat → Nat} (h : RR w a g n π κ) (hW : WS g) (hI : VI g) : Rd mX3_allVotes 2 [.ref a] w (some (.int (nI (smN (vo g) 10)))) := by
  intro sz
  refine Ev.ofV [some (.ref a), none, none] (by decide) (Nat.le_of_ble_eq_true rfl) rfl rfl rfl ?_
  obtain ⟨⟨F, r1, r2, r3⟩, hK, hP, hS, hR⟩ := h
  have hn := hK.1
  obtain ⟨Vf, hVf⟩ : ∃ Vf : Nat → Nat, ∀ i, i < n → RwR w (a + 2 + 4 * π i) g (κ i) (Vf i) := by
    have : ∀ i, ∃ V, i < n → RwR w (a + 2 + 4 * π i) g (κ i) V := fun i => by
      by_cases e : i < n
      · obtain ⟨V, hV⟩ := hR i e
        exact ⟨V, fun _ => hV⟩
      · exact ⟨0, fun z => absurd z e⟩
    exact Classical.axiomOfChoice this
  refine v_iconst (v := nI 0) dX3_allVotes_0 (by decide) ?_
  refine v_istore_n dX3_allVotes_1 (by decide) rfl ?_
  refine v_iconst (v := nI 0) dX3_allVotes_2 (by decide) ?_
  refine v_istore_n dX3_allVotes_3 (by decide) rfl ?_
  have LP4 : ∀ i, i ≤ n → V mX3_allVotes 2 0 0 (fun r' w' zz => r' = some (.int (nI (smN (vo g) 10))) ∧ w' = w ∧ zz = sz) (w) (sz) (0) (0) [some (.ref a), some (.int (nI (smN (fun i => pcn (Vf i)) i))), some (.int (nI i))] [] 4 := by
    refine dn (fun i hi ih => ?_)
    refine v_iload_n dX3_allVotes_4 rfl ?_
    refine v_aload_n dX3_allVotes_5 rfl ?_
    refine v_get 1 dX3_allVotes_6 FTX3 (by decide) rfl fl_X3_18 r1 rfl ?_
    refine v_icmp_geN (tgt := 30) dX3_allVotes_9 (by decide) (by omega) (by omega) (fun b9 => ?_) (fun b9 => ?_)
    ·
      have e1 : i = n := by omega
      subst e1
      refine v_iload_n dX3_allVotes_30 rfl ?_
      refine v_iret dX3_allVotes_31 rfl (Nat.le_refl _) (Nat.le_refl _) ?_
      exact ⟨by rw [av_eq hW hI hK (fun i hi => (hVf i hi).2.2)], rfl, rfl⟩
    ·
      obtain ⟨hr, hV, hb⟩ := hVf i (by omega)
      refine v_iload_n dX3_allVotes_12 rfl ?_
      refine v_aload_n dX3_allVotes_13 rfl ?_
      refine v_get 0 dX3_allVotes_14 FTX3 (by decide) rfl fl_X3_11 r1 rfl ?_
      refine v_iload_n dX3_allVotes_17 rfl ?_
      refine v_aald _ (by decide) dX3_allVotes_18 r2 rfl (by omega) (by decide) (r3 i (by omega)) ?_
      refine u_rV0 oX2_votes dX3_allVotes_19 ml_X3_53 (c_votes hr hV) hr.1 (by decide) (Nat.le_of_ble_eq_true rfl) (Nat.le_refl _) (Nat.le_refl _) ?_
      refine v_iaddN dX3_allVotes_22 ?_
      refine v_istore_n dX3_allVotes_23 (by decide) rfl ?_
      refine v_iincN dX3_allVotes_24 (by decide) rfl rfl rfl ?_
      refine v_goto (tgt := 4) dX3_allVotes_27 (by decide) ?_
      exact ih (by omega)
  exact LP4 0 (Nat.zero_le _)
set_option maxHeartbeats 2000000 in
set_option maxRecDepth 100000 in
theorem c_withS {w : Wd} {a n : Nat} {g : Nat → Int32} {π κ : Nat → Nat} (h : RR w a g n π κ) (x : Int32) (j : Nat) (hj : j < n) (hx : g (1808 + 65 * κ j) = x) : Rd mX3_withNumber 0 [.ref a, .int x] w (some (.ref (a + 2 + 4 * π j))) := by
  intro sz
  refine Ev.ofV [some (.ref a), some (.int x), none] (by decide) (Nat.le_of_ble_eq_true rfl) rfl rfl rfl ?_
  obtain ⟨⟨F, r1, r2, r3⟩, hK, hP, hS, hR⟩ := h
  have hn := hK.1
  refine v_iconst (v := nI 0) dX3_withNumber_0 (by decide) ?_
  refine v_istore_n dX3_withNumber_1 (by decide) rfl ?_
  have LP2 : ∀ i, i ≤ j → V mX3_withNumber 0 0 0 (fun r' w' zz => r' = some (.ref (a + 2 + 4 * π j)) ∧ w' = w ∧ zz = sz) (w) (sz) (0) (0) [some (.ref a), some (.int x), some (.int (nI i))] [] 2 := by
    refine dn (fun i hi ih => ?_)
    refine v_iload_n dX3_withNumber_2 rfl ?_
    refine v_aload_n dX3_withNumber_3 rfl ?_
    refine v_get 1 dX3_withNumber_4 FTX3 (by decide) rfl fl_X3_18 r1 rfl ?_
    refine v_icmp_geN (tgt := 36) dX3_withNumber_7 (by decide) (by omega) (by omega) (fun b7 => ?_) (fun b7 => ?_)
    ·
      exact absurd b7 (by omega)
    ·
      obtain ⟨V, hr, hV, hb⟩ := hR i (by omega)
      refine v_aload_n dX3_withNumber_10 rfl ?_
      refine v_get 0 dX3_withNumber_11 FTX3 (by decide) rfl fl_X3_11 r1 rfl ?_
      refine v_iload_n dX3_withNumber_14 rfl ?_
      refine v_aald _ (by decide) dX3_withNumber_15 r2 rfl (by omega) (by decide) (r3 i (by omega)) ?_
      refine v_get 1 dX3_withNumber_16 FTX2 (by decide) rfl fl_X3_29 hr.1 rfl ?_
      refine v_iload_n dX3_withNumber_19 rfl ?_
      refine v_icmp_ne (tgt := 30) dX3_withNumber_20 (by decide) (fun b20 => ?_) (fun b20 => ?_)
      ·
        refine v_iincN dX3_withNumber_30 (by decide) rfl rfl rfl ?_
        refine v_goto (tgt := 2) dX3_withNumber_33 (by decide) ?_
        exact ih (by
          by_cases e : i = j
          · rw [e] at b20; exact absurd hx b20
          · omega)
      ·
        have e1 : i = j := hK.inj (by omega) hj (b20.trans hx.symm)
        subst e1
        refine v_aload_n dX3_withNumber_23 rfl ?_
        refine v_get 0 dX3_withNumber_24 FTX3 (by decide) rfl fl_X3_11 r1 rfl ?_
        refine v_iload_n dX3_withNumber_27 rfl ?_
        refine v_aald _ (by decide) dX3_withNumber_28 r2 rfl (by omega) (by decide) (r3 i (by omega)) ?_
        refine v_aret dX3_withNumber_29 rfl (Or.inr ⟨_, rfl⟩) (Nat.le_refl _) (Nat.le_refl _) ?_
        exact ⟨rfl, rfl, rfl⟩
  exact LP2 0 (Nat.zero_le _)
set_option maxHeartbeats 2000000 in
set_option maxRecDepth 100000 in
theorem c_withN {w : Wd} {a n : Nat} {g : Nat → Int32} {π κ : Nat → Nat} (h : RR w a g n π κ) (x : Int32) (hx : ∀ i, i < n → ¬ g (1808 + 65 * κ i) = x) : Rd mX3_withNumber 0 [.ref a, .int x] w (some .null) := by
  intro sz
  refine Ev.ofV [some (.ref a), some (.int x), none] (by decide) (Nat.le_of_ble_eq_true rfl) rfl rfl rfl ?_
  obtain ⟨⟨F, r1, r2, r3⟩, hK, hP, hS, hR⟩ := h
  have hn := hK.1
  refine v_iconst (v := nI 0) dX3_withNumber_0 (by decide) ?_
  refine v_istore_n dX3_withNumber_1 (by decide) rfl ?_
  have LP2 : ∀ i, i ≤ n → V mX3_withNumber 0 0 0 (fun r' w' zz => r' = some .null ∧ w' = w ∧ zz = sz) (w) (sz) (0) (0) [some (.ref a), some (.int x), some (.int (nI i))] [] 2 := by
    refine dn (fun i hi ih => ?_)
    refine v_iload_n dX3_withNumber_2 rfl ?_
    refine v_aload_n dX3_withNumber_3 rfl ?_
    refine v_get 1 dX3_withNumber_4 FTX3 (by decide) rfl fl_X3_18 r1 rfl ?_
    refine v_icmp_geN (tgt := 36) dX3_withNumber_7 (by decide) (by omega) (by omega) (fun b7 => ?_) (fun b7 => ?_)
    ·
      refine v_null dX3_withNumber_36 ?_
      refine v_aret dX3_withNumber_37 rfl (Or.inl rfl) (Nat.le_refl _) (Nat.le_refl _) ?_
      exact ⟨rfl, rfl, rfl⟩
    ·
      obtain ⟨V, hr, hV, hb⟩ := hR i (by omega)
      refine v_aload_n dX3_withNumber_10 rfl ?_
      refine v_get 0 dX3_withNumber_11 FTX3 (by decide) rfl fl_X3_11 r1 rfl ?_
      refine v_iload_n dX3_withNumber_14 rfl ?_
      refine v_aald _ (by decide) dX3_withNumber_15 r2 rfl (by omega) (by decide) (r3 i (by omega)) ?_
      refine v_get 1 dX3_withNumber_16 FTX2 (by decide) rfl fl_X3_29 hr.1 rfl ?_
      refine v_iload_n dX3_withNumber_19 rfl ?_
      refine v_icmp_ne (tgt := 30) dX3_withNumber_20 (by decide) (fun b20 => ?_) (fun b20 => ?_)
      ·
        refine v_iincN dX3_withNumber_30 (by decide) rfl rfl rfl ?_
        refine v_goto (tgt := 2) dX3_withNumber_33 (by decide) ?_
        exact ih (by omega)
      ·
        exact absurd b20 (hx i (by omega))
  exact LP2 0 (Nat.zero_le _)
set_option maxHeartbeats 2000000 in
set_option maxRecDepth 100000 in
theorem c_indexS {w : Wd} {a n : Nat} {g : Nat → Int32} {π κ : Nat → Nat} (h : RR w a g n π κ) (x y : Int32) (j : Nat) (hj : j < n) (hx : (g (1808 + 65 * κ j + 2) = x ∧ g (1808 + 65 * κ j + 1) = y)) (hu : ∀ i, i < n → (g (1808 + 65 * κ i + 2) = x ∧ g (1808 + 65 * κ i + 1) = y) → i = j) : Rd mX3_indexBy 0 [.ref a, .int x, .int y] w (some (.int (nI j))) := by
  intro sz
  refine Ev.ofV [some (.ref a), some (.int x), some (.int y), none] (by decide) (Nat.le_of_ble_eq_true rfl) rfl rfl rfl ?_
  obtain ⟨⟨F, r1, r2, r3⟩, hK, hP, hS, hR⟩ := h
  have hn := hK.1
  refine v_iconst (v := nI 0) dX3_indexBy_0 (by decide) ?_
  refine v_istore_n dX3_indexBy_1 (by decide) rfl ?_
  have LP2 : ∀ i, i ≤ j → V mX3_indexBy 0 0 0 (fun r' w' zz => r' = some (.int (nI j)) ∧ w' = w ∧ zz = sz) (w) (sz) (0) (0) [some (.ref a), some (.int x), some (.int y), some (.int (nI i))] [] 2 := by
    refine dn (fun i hi ih => ?_)
    refine v_iload_n dX3_indexBy_2 rfl ?_
    refine v_aload_n dX3_indexBy_3 rfl ?_
    refine v_get 1 dX3_indexBy_4 FTX3 (by decide) rfl fl_X3_18 r1 rfl ?_
    refine v_icmp_geN (tgt := 44) dX3_indexBy_7 (by decide) (by omega) (by omega) (fun b7 => ?_) (fun b7 => ?_)
    ·
      exact absurd b7 (by omega)
    ·
      obtain ⟨V, hr, hV, hb⟩ := hR i (by omega)
      refine v_aload_n dX3_indexBy_10 rfl ?_
      refine v_get 0 dX3_indexBy_11 FTX3 (by decide) rfl fl_X3_11 r1 rfl ?_
      refine v_iload_n dX3_indexBy_14 rfl ?_
      refine v_aald _ (by decide) dX3_indexBy_15 r2 rfl (by omega) (by decide) (r3 i (by omega)) ?_
      refine v_get 3 dX3_indexBy_16 FTX2 (by decide) rfl fl_X3_44 hr.1 rfl ?_
      refine v_iload_n dX3_indexBy_19 rfl ?_
      refine v_icmp_ne (tgt := 38) dX3_indexBy_20 (by decide) (fun b20 => ?_) (fun b20 => ?_)
      ·
        refine v_iincN dX3_indexBy_38 (by decide) rfl rfl rfl ?_
        refine v_goto (tgt := 2) dX3_indexBy_41 (by decide) ?_
        exact ih (by
          by_cases e : i = j
          · rw [e] at b20; exact absurd hx.1 b20
          · omega)
      ·
        refine v_aload_n dX3_indexBy_23 rfl ?_
        refine v_get 0 dX3_indexBy_24 FTX3 (by decide) rfl fl_X3_11 r1 rfl ?_
        refine v_iload_n dX3_indexBy_27 rfl ?_
        refine v_aald _ (by decide) dX3_indexBy_28 r2 rfl (by omega) (by decide) (r3 i (by omega)) ?_
        refine v_get 2 dX3_indexBy_29 FTX2 (by decide) rfl fl_X3_47 hr.1 rfl ?_
        refine v_iload_n dX3_indexBy_32 rfl ?_
        refine v_icmp_ne (tgt := 38) dX3_indexBy_33 (by decide) (fun b33 => ?_) (fun b33 => ?_)
        ·
          refine v_iincN dX3_indexBy_38 (by decide) rfl rfl rfl ?_
          refine v_goto (tgt := 2) dX3_indexBy_41 (by decide) ?_
          exact ih (by
            by_cases e : i = j
            · rw [e] at b33; exact absurd hx.2 b33
            · omega)
        ·
          have e1 := hu i (by omega) ⟨b20, b33⟩
          subst e1
          refine v_iload_n dX3_indexBy_36 rfl ?_
          refine v_iret dX3_indexBy_37 rfl (Nat.le_refl _) (Nat.le_refl _) ?_
          exact ⟨rfl, rfl, rfl⟩
  exact LP2 0 (Nat.zero_le _)
set_option maxHeartbeats 2000000 in
set_option maxRecDepth 100000 in
theorem c_indexN {w : Wd} {a n : Nat} {g : Nat → Int32} {π κ : Nat → Nat} (h : RR w a g n π κ) (x y : Int32) (hx : ∀ i, i < n → ¬ (g (1808 + 65 * κ i + 2) = x ∧ g (1808 + 65 * κ i + 1) = y)) : Rd mX3_indexBy 0 [.ref a, .int x, .int y] w (some (.int (-1))) := by
  intro sz
  refine Ev.ofV [some (.ref a), some (.int x), some (.int y), none] (by decide) (Nat.le_of_ble_eq_true rfl) rfl rfl rfl ?_
  obtain ⟨⟨F, r1, r2, r3⟩, hK, hP, hS, hR⟩ := h
  have hn := hK.1
  refine v_iconst (v := nI 0) dX3_indexBy_0 (by decide) ?_
  refine v_istore_n dX3_indexBy_1 (by decide) rfl ?_
  have LP2 : ∀ i, i ≤ n → V mX3_indexBy 0 0 0 (fun r' w' zz => r' = some (.int (-1)) ∧ w' = w ∧ zz = sz) (w) (sz) (0) (0) [some (.ref a), some (.int x), some (.int y), some (.int (nI i))] [] 2 := by
    refine dn (fun i hi ih => ?_)
    refine v_iload_n dX3_indexBy_2 rfl ?_
    refine v_aload_n dX3_indexBy_3 rfl ?_
    refine v_get 1 dX3_indexBy_4 FTX3 (by decide) rfl fl_X3_18 r1 rfl ?_
    refine v_icmp_geN (tgt := 44) dX3_indexBy_7 (by decide) (by omega) (by omega) (fun b7 => ?_) (fun b7 => ?_)
    ·
      refine v_iconst (v := -1) dX3_indexBy_44 (by decide) ?_
      refine v_iret dX3_indexBy_45 rfl (Nat.le_refl _) (Nat.le_refl _) ?_
      exact ⟨rfl, rfl, rfl⟩
    ·
      obtain ⟨V, hr, hV, hb⟩ := hR i (by omega)
      refine v_aload_n dX3_indexBy_10 rfl ?_
      refine v_get 0 dX3_indexBy_11 FTX3 (by decide) rfl fl_X3_11 r1 rfl ?_
      refine v_iload_n dX3_indexBy_14 rfl ?_
      refine v_aald _ (by decide) dX3_indexBy_15 r2 rfl (by omega) (by decide) (r3 i (by omega)) ?_
      refine v_get 3 dX3_indexBy_16 FTX2 (by decide) rfl fl_X3_44 hr.1 rfl ?_
      refine v_iload_n dX3_indexBy_19 rfl ?_
      refine v_icmp_ne (tgt := 38) dX3_indexBy_20 (by decide) (fun b20 => ?_) (fun b20 => ?_)
      ·
        refine v_iincN dX3_indexBy_38 (by decide) rfl rfl rfl ?_
        refine v_goto (tgt := 2) dX3_indexBy_41 (by decide) ?_
        exact ih (by omega)
      ·
        refine v_aload_n dX3_indexBy_23 rfl ?_
        refine v_get 0 dX3_indexBy_24 FTX3 (by decide) rfl fl_X3_11 r1 rfl ?_
        refine v_iload_n dX3_indexBy_27 rfl ?_
        refine v_aald _ (by decide) dX3_indexBy_28 r2 rfl (by omega) (by decide) (r3 i (by omega)) ?_
        refine v_get 2 dX3_indexBy_29 FTX2 (by decide) rfl fl_X3_47 hr.1 rfl ?_
        refine v_iload_n dX3_indexBy_32 rfl ?_
        refine v_icmp_ne (tgt := 38) dX3_indexBy_33 (by decide) (fun b33 => ?_) (fun b33 => ?_)
        ·
          refine v_iincN dX3_indexBy_38 (by decide) rfl rfl rfl ?_
          refine v_goto (tgt := 2) dX3_indexBy_41 (by decide) ?_
          exact ih (by omega)
        ·
          exact absurd ⟨b20, b33⟩ (hx i (by omega))
  exact LP2 0 (Nat.zero_le _)
set_option maxHeartbeats 2000000 in
set_option maxRecDepth 100000 in
theorem c_roomS {w : Wd} {a n : Nat} {g : Nat → Int32} {π κ : Nat → Nat} (h : RR w a g n π κ) (h18 : ub (g 18) 201) (x y : Int32) (j : Nat) (hj : j < n) (hx : (g (1808 + 65 * κ j + 2) = x ∧ g (1808 + 65 * κ j + 1) = y)) (hu : ∀ i, i < n → (g (1808 + 65 * κ i + 2) = x ∧ g (1808 + 65 * κ i + 1) = y) → i = j) : Rd mX3_hasRoomFor 1 [.ref a, .int x, .int y] w (some (.int (b2i (decide (nt (g 18) < 200))))) := by
  intro sz
  refine Ev.ofV [some (.ref a), some (.int x), some (.int y), none] (by decide) (Nat.le_of_ble_eq_true rfl) rfl rfl rfl ?_
  have h0 := h
  obtain ⟨⟨F, r1, r2, r3⟩, hK, hP, hS, hR⟩ := h0
  have hn := hK.1
  have h18b := h18.2
  rw [h18.1] at r1
  have J23 : V mX3_hasRoomFor 1 0 0 (fun r' w' zz => r' = some (.int (b2i (decide (nt (g 18) < 200)))) ∧ w' = w ∧ zz = sz) (w) (sz) (0) (0) [some (.ref a), some (.int x), some (.int y), none] [.int (b2i true)] 23 := by
    skip
    refine v_istore_n dX3_hasRoomFor_23 (by decide) rfl ?_
    refine v_iload_n dX3_hasRoomFor_24 rfl ?_
    refine v_if_eqB (tgt := 42) dX3_hasRoomFor_25 (by decide) (fun b25 => ?_) (fun b25 => ?_)
    ·
      cases b25
    ·
      refine v_aload_n dX3_hasRoomFor_28 rfl ?_
      refine v_get 2 dX3_hasRoomFor_29 FTX3 (by decide) rfl fl_X3_22 r1 rfl ?_
      refine v_sipush (v := nI 200) dX3_hasRoomFor_32 (by decide) ?_
      refine v_icmp_geN (tgt := 42) dX3_hasRoomFor_35 (by decide) (by omega) (by omega) (fun b35 => ?_) (fun b35 => ?_)
      ·
        refine v_iconst (v := nI 0) dX3_hasRoomFor_42 (by decide) ?_
        refine v_zret dX3_hasRoomFor_43 rfl (by decide) (Nat.le_refl _) (Nat.le_refl _) ?_
        exact ⟨by rw [decide_eq_false (by omega)]; rfl, rfl, rfl⟩
      ·
        refine v_iconst (v := nI 1) dX3_hasRoomFor_38 (by decide) ?_
        refine v_goto (tgt := 43) dX3_hasRoomFor_39 (by decide) ?_
        refine v_zret dX3_hasRoomFor_43 rfl (by decide) (Nat.le_refl _) (Nat.le_refl _) ?_
        exact ⟨by rw [decide_eq_true (by omega)]; rfl, rfl, rfl⟩
  refine v_aload_n dX3_hasRoomFor_0 rfl ?_
  refine v_get 1 dX3_hasRoomFor_1 FTX3 (by decide) rfl fl_X3_18 r1 rfl ?_
  refine v_bipush (v := nI 16) dX3_hasRoomFor_4 (by decide) ?_
  refine v_icmp_ltN (tgt := 18) dX3_hasRoomFor_6 (by decide) (by omega) (by omega) (fun b6 => ?_) (fun b6 => ?_)
  ·
    refine v_iconst (v := nI 1) dX3_hasRoomFor_18 (by decide) ?_
    refine v_goto (tgt := 23) dX3_hasRoomFor_19 (by decide) ?_
    exact J23
  ·
    refine v_aload_n dX3_hasRoomFor_9 rfl ?_
    refine v_iload_n dX3_hasRoomFor_10 rfl ?_
    refine v_iload_n dX3_hasRoomFor_11 rfl ?_
    refine u_rV2 oX3_indexBy dX3_hasRoomFor_12 ml_X3_32 (c_indexS h x y j hj hx hu) r1 (by decide) (Nat.le_of_ble_eq_true rfl) (Nat.le_refl _) (Nat.le_refl _) ?_
    refine v_if_ltN (tgt := 22) dX3_hasRoomFor_15 (by decide) (by omega) ?_
    refine v_iconst (v := nI 1) dX3_hasRoomFor_18 (by decide) ?_
    refine v_goto (tgt := 23) dX3_hasRoomFor_19 (by decide) ?_
    exact J23
set_option maxHeartbeats 2000000 in
set_option maxRecDepth 100000 in
theorem c_roomN {w : Wd} {a n : Nat} {g : Nat → Int32} {π κ : Nat → Nat} (h : RR w a g n π κ) (h18 : ub (g 18) 201) (x y : Int32) (hx : ∀ i, i < n → ¬ (g (1808 + 65 * κ i + 2) = x ∧ g (1808 + 65 * κ i + 1) = y)) : Rd mX3_hasRoomFor 1 [.ref a, .int x, .int y] w (some (.int (b2i (decide (n < 16) && decide (nt (g 18) < 200))))) := by
  intro sz
  refine Ev.ofV [some (.ref a), some (.int x), some (.int y), none] (by decide) (Nat.le_of_ble_eq_true rfl) rfl rfl rfl ?_
  have h0 := h
  obtain ⟨⟨F, r1, r2, r3⟩, hK, hP, hS, hR⟩ := h0
  have hn := hK.1
  have h18b := h18.2
  rw [h18.1] at r1
  have J23 : ∀ c : Bool, c = decide (n < 16) → V mX3_hasRoomFor 1 0 0 (fun r' w' zz => r' = some (.int (b2i (decide (n < 16) && decide (nt (g 18) < 200)))) ∧ w' = w ∧ zz = sz) (w) (sz) (0) (0) [some (.ref a), some (.int x), some (.int y), none] [.int (b2i c)] 23 := by
    intro c hc
    refine v_istore_n dX3_hasRoomFor_23 (by decide) rfl ?_
    refine v_iload_n dX3_hasRoomFor_24 rfl ?_
    refine v_if_eqB (tgt := 42) dX3_hasRoomFor_25 (by decide) (fun b25 => ?_) (fun b25 => ?_)
    ·
      refine v_iconst (v := nI 0) dX3_hasRoomFor_42 (by decide) ?_
      refine v_zret dX3_hasRoomFor_43 rfl (by decide) (Nat.le_refl _) (Nat.le_refl _) ?_
      exact ⟨by rw [← hc, b25]; rfl, rfl, rfl⟩
    ·
      refine v_aload_n dX3_hasRoomFor_28 rfl ?_
      refine v_get 2 dX3_hasRoomFor_29 FTX3 (by decide) rfl fl_X3_22 r1 rfl ?_
      refine v_sipush (v := nI 200) dX3_hasRoomFor_32 (by decide) ?_
      refine v_icmp_geN (tgt := 42) dX3_hasRoomFor_35 (by decide) (by omega) (by omega) (fun b35 => ?_) (fun b35 => ?_)
      ·
        refine v_iconst (v := nI 0) dX3_hasRoomFor_42 (by decide) ?_
        refine v_zret dX3_hasRoomFor_43 rfl (by decide) (Nat.le_refl _) (Nat.le_refl _) ?_
        exact ⟨by rw [← hc, b25, decide_eq_false (by omega)]; rfl, rfl, rfl⟩
      ·
        refine v_iconst (v := nI 1) dX3_hasRoomFor_38 (by decide) ?_
        refine v_goto (tgt := 43) dX3_hasRoomFor_39 (by decide) ?_
        refine v_zret dX3_hasRoomFor_43 rfl (by decide) (Nat.le_refl _) (Nat.le_refl _) ?_
        exact ⟨by rw [← hc, b25, decide_eq_true (by omega)]; rfl, rfl, rfl⟩
  refine v_aload_n dX3_hasRoomFor_0 rfl ?_
  refine v_get 1 dX3_hasRoomFor_1 FTX3 (by decide) rfl fl_X3_18 r1 rfl ?_
  refine v_bipush (v := nI 16) dX3_hasRoomFor_4 (by decide) ?_
  refine v_icmp_ltN (tgt := 18) dX3_hasRoomFor_6 (by decide) (by omega) (by omega) (fun b6 => ?_) (fun b6 => ?_)
  ·
    refine v_iconst (v := nI 1) dX3_hasRoomFor_18 (by decide) ?_
    refine v_goto (tgt := 23) dX3_hasRoomFor_19 (by decide) ?_
    exact J23 true (decide_eq_true b6).symm
  ·
    refine v_aload_n dX3_hasRoomFor_9 rfl ?_
    refine v_iload_n dX3_hasRoomFor_10 rfl ?_
    refine v_iload_n dX3_hasRoomFor_11 rfl ?_
    refine u_rV2 oX3_indexBy dX3_hasRoomFor_12 ml_X3_32 (c_indexN h x y hx) r1 (by decide) (Nat.le_of_ble_eq_true rfl) (Nat.le_refl _) (Nat.le_refl _) ?_
    refine v_if_lt (tgt := 22) dX3_hasRoomFor_15 (by decide) (fun b15 => ?_) (fun b15 => ?_)
    ·
      refine v_iconst (v := nI 0) dX3_hasRoomFor_22 (by decide) ?_
      exact J23 false (decide_eq_false b6).symm
    ·
      exact absurd (by decide) b15
set_option maxHeartbeats 2000000 in
set_option maxRecDepth 100000 in
theorem c_aheadOf {w : Wd} {a n : Nat} {g : Nat → Int32} {π κ : Nat → Nat} (h : RR w a g n π κ) (hW : WS g) (hI : VI g) (j x : Nat) (hj : j < n) (hx : x = a + 2 + 4 * π j) : Rd mX3_aheadOf 3 [.ref a, .ref x] w (some (.int (nI (cnt (ahd g (κ j)) 16)))) := by
  intro sz
  refine Ev.ofV [some (.ref a), some (.ref x), none, none] (by decide) (Nat.le_of_ble_eq_true rfl) rfl rfl rfl ?_
  obtain ⟨⟨F, r1, r2, r3⟩, hK, hP, hS, hR⟩ := h
  have hn := hK.1
  have hkj := hK.2.1 j hj
  obtain ⟨Vj, hrj, hVj, hbj⟩ := hR j hj
  have hvj := RwR.vf (w := w) (a := a + 2 + 4 * π j) (V := Vj) ⟨hrj, hVj, hbj⟩ hW hI hK.di hkj.1 hkj.2
  rw [← hx] at hrj
  have cnt_ah : cnt (fun i => ahd g (κ j) (κ i)) n = cnt (ahd g (κ j)) 16 := by
    rw [KR_cnt hK (ahd g (κ j))]
    refine cnt_congr (fun k hk => ?_)
    unfold ahd
    cases decide (0 ≤ g (1808 + 65 * k)) <;> rfl
  refine v_iconst (v := nI 0) dX3_aheadOf_0 (by decide) ?_
  refine v_istore_n dX3_aheadOf_1 (by decide) rfl ?_
  refine v_iconst (v := nI 0) dX3_aheadOf_2 (by decide) ?_
  refine v_istore_n dX3_aheadOf_3 (by decide) rfl ?_
  have LP4 : ∀ i, i ≤ n → V mX3_aheadOf 3 0 0 (fun r' w' zz => r' = some (.int (nI (cnt (ahd g (κ j)) 16))) ∧ w' = w ∧ zz = sz) (w) (sz) (0) (0) [some (.ref a), some (.ref x), some (.int (nI (cnt (fun i => ahd g (κ j) (κ i)) i))), some (.int (nI i))] [] 4 := by
    refine dn (fun i hi ih => ?_)
    refine v_iload_n dX3_aheadOf_4 rfl ?_
    refine v_aload_n dX3_aheadOf_5 rfl ?_
    refine v_get 1 dX3_aheadOf_6 FTX3 (by decide) rfl fl_X3_18 r1 rfl ?_
    refine v_icmp_geN (tgt := 50) dX3_aheadOf_9 (by decide) (by omega) (by omega) (fun b9 => ?_) (fun b9 => ?_)
    ·
      have e1 : i = n := by omega
      subst e1
      refine v_iload_n dX3_aheadOf_50 rfl ?_
      refine v_iret dX3_aheadOf_51 rfl (Nat.le_refl _) (Nat.le_refl _) ?_
      exact ⟨by rw [cnt_ah], rfl, rfl⟩
    ·
      obtain ⟨V, hr, hV, hb⟩ := hR i (by omega)
      have hki := hK.2.1 i (by omega)
      have hah : ahd g (κ j) (κ i) = ((g (1808 + 65 * κ i + 1) == g (1808 + 65 * κ j + 1)) && (decide (pcn Vj < pcn V) || (decide (pcn V = pcn Vj) && decide (g (1808 + 65 * κ i) < g (1808 + 65 * κ j))))) := by
        unfold ahd
        rw [decide_eq_true hki.2, RwR.vf (w := w) (a := a + 2 + 4 * π i) (V := V) ⟨hr, hV, hb⟩ hW hI hK.di hki.1 hki.2, hvj]
        rfl
      refine v_aload_n dX3_aheadOf_12 rfl ?_
      refine v_get 0 dX3_aheadOf_13 FTX3 (by decide) rfl fl_X3_11 r1 rfl ?_
      refine v_iload_n dX3_aheadOf_16 rfl ?_
      refine v_aald _ (by decide) dX3_aheadOf_17 r2 rfl (by omega) (by decide) (r3 i (by omega)) ?_
      refine v_get 2 dX3_aheadOf_18 FTX2 (by decide) rfl fl_X3_47 hr.1 rfl ?_
      refine v_aload_n dX3_aheadOf_21 rfl ?_
      refine v_get 2 dX3_aheadOf_22 FTX2 (by decide) rfl fl_X3_47 hrj.1 rfl ?_
      refine v_icmp_ne (tgt := 44) dX3_aheadOf_25 (by decide) (fun b25 => ?_) (fun b25 => ?_)
      ·
        refine v_iincN dX3_aheadOf_44 (by decide) rfl rfl rfl ?_
        refine v_goto (tgt := 4) dX3_aheadOf_47 (by decide) ?_
        refine v_eqL ?_ (ih (by omega))
        simp [st, cnt, hah, b25]
      ·
        refine v_aload_n dX3_aheadOf_28 rfl ?_
        refine v_get 0 dX3_aheadOf_29 FTX3 (by decide) rfl fl_X3_11 r1 rfl ?_
        refine v_iload_n dX3_aheadOf_32 rfl ?_
        refine v_aald _ (by decide) dX3_aheadOf_33 r2 rfl (by omega) (by decide) (r3 i (by omega)) ?_
        refine v_aload_n dX3_aheadOf_34 rfl ?_
        refine u_rV1 oX2_hasMoreVotesOrLowerNumber dX3_aheadOf_35 ml_X3_72 (c_lower hr hV hrj hVj) hr.1 (by decide) (Nat.le_of_ble_eq_true rfl) (Nat.le_refl _) (Nat.le_refl _) ?_
        refine v_if_eqB (tgt := 44) dX3_aheadOf_38 (by decide) (fun b38 => ?_) (fun b38 => ?_)
        ·
          refine v_iincN dX3_aheadOf_44 (by decide) rfl rfl rfl ?_
          refine v_goto (tgt := 4) dX3_aheadOf_47 (by decide) ?_
          refine v_eqL ?_ (ih (by omega))
          simp only [st, cnt, hah, b38]
          simp
        ·
          refine v_iincN dX3_aheadOf_41 (by decide) rfl rfl rfl ?_
          refine v_iincN dX3_aheadOf_44 (by decide) rfl rfl rfl ?_
          refine v_goto (tgt := 4) dX3_aheadOf_47 (by decide) ?_
          refine v_eqL ?_ (ih (by omega))
          simp only [st, cnt, hah, b38]
          simp [b25]
  exact LP4 0 (Nat.zero_le _)
set_option maxHeartbeats 2000000 in
set_option maxRecDepth 100000 in
theorem c_atRank {w : Wd} {a n : Nat} {g : Nat → Int32} {π κ : Nat → Nat} (h : RR w a g n π κ) (hW : WS g) (hI : VI g) (y x : Int32) : Rd mX3_atRank 4 [.ref a, .int y, .int x] w (some (rvO a π (fsO (fun i => g (1808 + 65 * κ i + 1) == y && nI (cnt (ahd g (κ i)) 16) == x) n))) := by
  intro sz
  refine Ev.ofV [some (.ref a), some (.int y), some (.int x), none] (by decide) (Nat.le_of_ble_eq_true rfl) rfl rfl rfl ?_
  have h0 := h
  obtain ⟨⟨F, r1, r2, r3⟩, hK, hP, hS, hR⟩ := h0
  have hn := hK.1
  refine v_iconst (v := nI 0) dX3_atRank_0 (by decide) ?_
  refine v_istore_n dX3_atRank_1 (by decide) rfl ?_
  have LP2 : ∀ i, i ≤ n → (∀ j, j < i → (fun i => g (1808 + 65 * κ i + 1) == y && nI (cnt (ahd g (κ i)) 16) == x) j = false) → V mX3_atRank 4 0 0 (fun r' w' zz => r' = some (rvO a π (fsO (fun i => g (1808 + 65 * κ i + 1) == y && nI (cnt (ahd g (κ i)) 16) == x) n)) ∧ w' = w ∧ zz = sz) (w) (sz) (0) (0) [some (.ref a), some (.int y), some (.int x), some (.int (nI i))] [] 2 := by
    refine dn (fun i hi ih => ?_)
    intro hno
    refine v_iload_n dX3_atRank_2 rfl ?_
    refine v_aload_n dX3_atRank_3 rfl ?_
    refine v_get 1 dX3_atRank_4 FTX3 (by decide) rfl fl_X3_18 r1 rfl ?_
    refine v_icmp_geN (tgt := 50) dX3_atRank_7 (by decide) (by omega) (by omega) (fun b7 => ?_) (fun b7 => ?_)
    ·
      have e1 : i = n := by omega
      subst e1
      refine v_null dX3_atRank_50 ?_
      refine v_aret dX3_atRank_51 rfl (Or.inl rfl) (Nat.le_refl _) (Nat.le_refl _) ?_
      exact ⟨by rw [fsO_N hno]; rfl, rfl, rfl⟩
    ·
      obtain ⟨V, hr, hV, hb⟩ := hR i (by omega)
      refine v_aload_n dX3_atRank_10 rfl ?_
      refine v_get 0 dX3_atRank_11 FTX3 (by decide) rfl fl_X3_11 r1 rfl ?_
      refine v_iload_n dX3_atRank_14 rfl ?_
      refine v_aald _ (by decide) dX3_atRank_15 r2 rfl (by omega) (by decide) (r3 i (by omega)) ?_
      refine v_get 2 dX3_atRank_16 FTX2 (by decide) rfl fl_X3_47 hr.1 rfl ?_
      refine v_iload_n dX3_atRank_19 rfl ?_
      refine v_icmp_ne (tgt := 44) dX3_atRank_20 (by decide) (fun b20 => ?_) (fun b20 => ?_)
      ·
        refine v_iincN dX3_atRank_44 (by decide) rfl rfl rfl ?_
        refine v_goto (tgt := 2) dX3_atRank_47 (by decide) ?_
        exact ih (by omega) (fun j hj => by
          by_cases e : j = i
          · subst e; simp [b20]
          · exact hno j (by omega))
      ·
        refine v_aload_n dX3_atRank_23 rfl ?_
        refine v_aload_n dX3_atRank_24 rfl ?_
        refine v_get 0 dX3_atRank_25 FTX3 (by decide) rfl fl_X3_11 r1 rfl ?_
        refine v_iload_n dX3_atRank_28 rfl ?_
        refine v_aald _ (by decide) dX3_atRank_29 r2 rfl (by omega) (by decide) (r3 i (by omega)) ?_
        refine u_rV1 oX3_aheadOf dX3_atRank_30 ml_X3_68 (c_aheadOf h hW hI i _ (by omega) rfl) r1 (by decide) (Nat.le_of_ble_eq_true rfl) (Nat.le_refl _) (Nat.le_refl _) ?_
        refine v_iload_n dX3_atRank_33 rfl ?_
        refine v_icmp_ne (tgt := 44) dX3_atRank_34 (by decide) (fun b34 => ?_) (fun b34 => ?_)
        ·
          refine v_iincN dX3_atRank_44 (by decide) rfl rfl rfl ?_
          refine v_goto (tgt := 2) dX3_atRank_47 (by decide) ?_
          exact ih (by omega) (fun j hj => by
            by_cases e : j = i
            · subst e; simp [b34]
            · exact hno j (by omega))
        ·
          refine v_aload_n dX3_atRank_37 rfl ?_
          refine v_get 0 dX3_atRank_38 FTX3 (by decide) rfl fl_X3_11 r1 rfl ?_
          refine v_iload_n dX3_atRank_41 rfl ?_
          refine v_aald _ (by decide) dX3_atRank_42 r2 rfl (by omega) (by decide) (r3 i (by omega)) ?_
          refine v_aret dX3_atRank_43 rfl (Or.inr ⟨_, rfl⟩) (Nat.le_refl _) (Nat.le_refl _) ?_
          exact ⟨by rw [fsO_S (i := i) (by omega) (by simp [b20, b34]) hno]; rfl, rfl, rfl⟩
  exact LP2 0 (Nat.zero_le _) (fun j hj => absurd hj (Nat.not_lt_zero _))
