/-- sums and counts of the reference's own loops -/
def smN (f : Nat → Nat) : Nat → Nat
  | 0 => 0
  | n + 1 => smN f n + f n
def vf (σ : Nat → Int32) (x : Int32) : Nat := cnt (fun k => σ (32 + k) == x) 240
def vo (σ : Nat → Int32) (v : Nat) : Nat := cnt (fun k => decide (0 ≤ σ (32 + 24 * v + k))) 24
def askB (σ : Nat → Int32) (r b : Nat) : Bool := decide ((σ (8 + r) >>> (nI b &&& 31)) &&& nI 1 = nI 1)
def ln (σ : Nat → Int32) (p : Nat) : Nat := nt (σ (272 + 64 * p))
def nwl (σ : Nat → Int32) (p : Nat) : Nat := nw (sft σ (272 + 64 * p + 4)) (ln σ p)
def lbS (σ : Nat → Int32) (r k s a b : Nat) : Nat := if k = 3 then (if s < nwl σ (3 * a + b) then nwl σ (3 * a + b) else s) else s + (if (askB σ r b == !decide (k = 2)) && (decide (0 < ln σ (3 * a + b)) == !decide (k = 1)) then 1 else 0)
def lbI (σ : Nat → Int32) (r k a s : Nat) : Nat → Nat
  | 0 => s
  | b + 1 => lbS σ r k (lbI σ r k a s b) a b
def lbO (σ : Nat → Int32) (r k : Nat) : Nat → Nat
  | 0 => 0
  | a + 1 => if σ a = nI r then lbI σ r k a (lbO σ r k a) 3 else lbO σ r k a
theorem nI_sub_pos {a b : Nat} (ha : a < 1073741824) (hb : b < 1073741824) : (0 : Int32) < nI a - nI b ↔ b < a := by
  rw [Int32.lt_iff_toInt_lt]
  have h1 := nI_toInt (n := a) (by omega)
  have h2 := nI_toInt (n := b) (by omega)
  have h3 : (nI a - nI b).toInt = (a : Int) - (b : Int) := by
    rw [Int32.toInt_sub, h1, h2]
    apply Int.bmod_eq_of_le <;> omega
  rw [h3, Int32.toInt_zero]
  omega
theorem nI_sub_neg {a b : Nat} (ha : a < 1073741824) (hb : b < 1073741824) : nI a - nI b < (0 : Int32) ↔ a < b := by
  rw [Int32.lt_iff_toInt_lt]
  have h1 := nI_toInt (n := a) (by omega)
  have h2 := nI_toInt (n := b) (by omega)
  have h3 : (nI a - nI b).toInt = (a : Int) - (b : Int) := by
    rw [Int32.toInt_sub, h1, h2]
    apply Int.bmod_eq_of_le <;> omega
  rw [h3, Int32.toInt_zero]
  omega
theorem nI_sub_0 {a b : Nat} (ha : a < 1073741824) (hb : b < 1073741824) : nI a - nI b = (0 : Int32) ↔ a = b := by
  have h1 := nI_sub_pos ha hb
  have h2 := nI_sub_neg ha hb
  constructor
  · intro h
    rw [h] at h1 h2
    have h3 : ¬ (0 : Int32) < 0 := by decide
    have h4 := mt h1.mpr h3
    have h5 := mt h2.mpr h3
    omega
  · intro h
    rw [h, Int32.sub_self]
theorem cn1 {p : Nat → Bool} {i : Nat} (h : p i = true) : nI (cnt p i + 1) = nI (cnt p (i + 1)) := by simp [cnt, h]
theorem cn0 {p : Nat → Bool} {i : Nat} (h : p i = false) : nI (cnt p i + 0) = nI (cnt p (i + 1)) := by simp [cnt, h]

set_option maxHeartbeats 4000000 in
set_option maxRecDepth 100000 in
theorem c_labels {w : Wd} {o ns tn : Nat} {kp : Int32} {σ tx cm : Nat → Int32} (hM : MW w o ns tn kp σ tx cm) (hl : ∀ p, p < 24 → ub (σ (272 + 64 * p)) 61) : Rd mX8_labels 0 [.ref o] w (some (.int (nI (cnt (fun p => decide (0 < ln σ p)) 24)))) := by
  intro sz
  refine Ev.ofV [some (.ref o), none, none] (by decide) (Nat.le_of_ble_eq_true rfl) rfl rfl rfl ?_
  refine v_iconst (v := nI 0) dX8_labels_0 (by decide) ?_
  refine v_istore_n dX8_labels_1 (by decide) rfl ?_
  refine v_iconst (v := nI 0) dX8_labels_2 (by decide) ?_
  refine v_istore_n dX8_labels_3 (by decide) rfl ?_
  have LP4 : ∀ i, i ≤ 24 → V mX8_labels 0 0 0 (fun r' w' z => r' = some (.int (nI (cnt (fun p => decide (0 < ln σ p)) 24))) ∧ w' = w ∧ z = sz) (w) (sz) (0) (0) [some (.ref o), some (.int (nI (cnt (fun p => decide (0 < ln σ p)) i))), some (.int (nI i))] [] 4 := by
    refine dn (fun i hi ih => ?_)
    refine v_iload_n dX8_labels_4 rfl ?_
    refine v_bipush (v := nI 24) dX8_labels_5 (by decide) ?_
    refine v_icmp_geN (tgt := 40) dX8_labels_7 (by decide) (by omega) (by omega) (fun b7 => ?_) (fun b7 => ?_)
    ·
      refine v_iload_n dX8_labels_40 rfl ?_
      refine v_iret dX8_labels_41 rfl (Nat.le_refl _) (Nat.le_refl _) ?_
      have ei : i = 24 := by omega
      subst ei
      exact ⟨rfl, rfl, rfl⟩
    ·
      refine v_iload_n dX8_labels_10 rfl ?_
      refine v_aload_n dX8_labels_11 rfl ?_
      refine v_get 0 dX8_labels_12 FTX8 (by decide) rfl fl_X8_7 hM.1 rfl ?_
      refine v_sipush (v := nI 272) dX8_labels_15 (by decide) ?_
      refine v_bipush (v := nI 64) dX8_labels_18 (by decide) ?_
      refine v_iload_n dX8_labels_20 rfl ?_
      refine v_imulN dX8_labels_21 ?_
      refine v_iaddN dX8_labels_22 ?_
      refine v_ialdN _ dX8_labels_23 hM.2.1 rfl (by omega) (by decide) (hl i (by omega)).1 ?_
      refine v_if_leN (tgt := 31) dX8_labels_24 (by decide) (by have := (hl i (by omega)).2; omega) (fun b24 => ?_) (fun b24 => ?_)
      ·
        have q := cn0 (p := (fun p => decide (0 < ln σ p))) (i := i) (by simp [ln, b24])
        refine v_iconst (v := nI 0) dX8_labels_31 (by decide) ?_
        refine v_iaddN dX8_labels_32 ?_
        refine v_istore_n dX8_labels_33 (by decide) rfl ?_
        refine v_iincN dX8_labels_34 (by decide) rfl rfl rfl ?_
        refine v_goto (tgt := 4) dX8_labels_37 (by decide) ?_
        refine v_eqL ?_ (ih (by omega))
        rw [← q]
        rfl
      ·
        have q := cn1 (p := (fun p => decide (0 < ln σ p))) (i := i) (by simp [ln, b24])
        refine v_iconst (v := nI 1) dX8_labels_27 (by decide) ?_
        refine v_goto (tgt := 32) dX8_labels_28 (by decide) ?_
        refine v_iaddN dX8_labels_32 ?_
        refine v_istore_n dX8_labels_33 (by decide) rfl ?_
        refine v_iincN dX8_labels_34 (by decide) rfl rfl rfl ?_
        refine v_goto (tgt := 4) dX8_labels_37 (by decide) ?_
        refine v_eqL ?_ (ih (by omega))
        rw [← q]
        rfl
  exact LP4 0 (Nat.zero_le _)
set_option maxHeartbeats 4000000 in
set_option maxRecDepth 100000 in
theorem c_worksOf {w : Wd} {o ns tn : Nat} {kp : Int32} {σ tx cm : Nat → Int32} (hM : MW w o ns tn kp σ tx cm) (x : Int32) : Rd mX8_worksOf 0 [.ref o, .int x] w (some (.int (nI (cnt (fun a => σ a == x) 8)))) := by
  intro sz
  refine Ev.ofV [some (.ref o), some (.int x), none, none] (by decide) (Nat.le_of_ble_eq_true rfl) rfl rfl rfl ?_
  refine v_iconst (v := nI 0) dX8_worksOf_0 (by decide) ?_
  refine v_istore_n dX8_worksOf_1 (by decide) rfl ?_
  refine v_iconst (v := nI 0) dX8_worksOf_2 (by decide) ?_
  refine v_istore_n dX8_worksOf_3 (by decide) rfl ?_
  have LP4 : ∀ i, i ≤ 8 → V mX8_worksOf 0 0 0 (fun r' w' z => r' = some (.int (nI (cnt (fun a => σ a == x) 8))) ∧ w' = w ∧ z = sz) (w) (sz) (0) (0) [some (.ref o), some (.int x), some (.int (nI (cnt (fun a => σ a == x) i))), some (.int (nI i))] [] 4 := by
    refine dn (fun i hi ih => ?_)
    refine v_iload_n dX8_worksOf_4 rfl ?_
    refine v_bipush (v := nI 8) dX8_worksOf_5 (by decide) ?_
    refine v_icmp_geN (tgt := 34) dX8_worksOf_7 (by decide) (by omega) (by omega) (fun b7 => ?_) (fun b7 => ?_)
    ·
      refine v_iload_n dX8_worksOf_34 rfl ?_
      refine v_iret dX8_worksOf_35 rfl (Nat.le_refl _) (Nat.le_refl _) ?_
      have ei : i = 8 := by omega
      subst ei
      exact ⟨rfl, rfl, rfl⟩
    ·
      refine v_iload_n dX8_worksOf_10 rfl ?_
      refine v_aload_n dX8_worksOf_11 rfl ?_
      refine v_get 0 dX8_worksOf_12 FTX8 (by decide) rfl fl_X8_7 hM.1 rfl ?_
      refine v_iload_n dX8_worksOf_15 rfl ?_
      refine v_iald _ dX8_worksOf_16 hM.2.1 rfl (by omega) (by decide) ?_
      refine v_iload_n dX8_worksOf_17 rfl ?_
      refine v_icmp_ne (tgt := 25) dX8_worksOf_18 (by decide) (fun b18 => ?_) (fun b18 => ?_)
      ·
        refine v_iconst (v := nI 0) dX8_worksOf_25 (by decide) ?_
        refine v_iaddN dX8_worksOf_26 ?_
        refine v_istore_n dX8_worksOf_27 (by decide) rfl ?_
        refine v_iincN dX8_worksOf_28 (by decide) rfl rfl rfl ?_
        refine v_goto (tgt := 4) dX8_worksOf_31 (by decide) ?_
        refine v_eqL ?_ (ih (by omega))
        simp [st, cnt, Nat.add_assoc, b18]
      ·
        refine v_iconst (v := nI 1) dX8_worksOf_21 (by decide) ?_
        refine v_goto (tgt := 26) dX8_worksOf_22 (by decide) ?_
        refine v_iaddN dX8_worksOf_26 ?_
        refine v_istore_n dX8_worksOf_27 (by decide) rfl ?_
        refine v_iincN dX8_worksOf_28 (by decide) rfl rfl rfl ?_
        refine v_goto (tgt := 4) dX8_worksOf_31 (by decide) ?_
        refine v_eqL ?_ (ih (by omega))
        simp [st, cnt, Nat.add_assoc, b18]
  exact LP4 0 (Nat.zero_le _)
set_option maxHeartbeats 4000000 in
set_option maxRecDepth 100000 in
theorem c_rewritesOf {w : Wd} {o ns tn : Nat} {kp : Int32} {σ tx cm : Nat → Int32} (hM : MW w o ns tn kp σ tx cm) (x : Int32) : Rd mX8_rewritesOf 1 [.ref o, .int x] w (some (.int (nI (cnt (fun k => decide (0 ≤ σ (1808 + 65 * k)) && (decide (x < 0) || σ (1808 + 65 * k + 2) == x)) 16)))) := by
  intro sz
  refine Ev.ofV [some (.ref o), some (.int x), none, none] (by decide) (Nat.le_of_ble_eq_true rfl) rfl rfl rfl ?_
  refine v_iconst (v := nI 0) dX8_rewritesOf_0 (by decide) ?_
  refine v_istore_n dX8_rewritesOf_1 (by decide) rfl ?_
  refine v_iconst (v := nI 0) dX8_rewritesOf_2 (by decide) ?_
  refine v_istore_n dX8_rewritesOf_3 (by decide) rfl ?_
  have LP4 : ∀ i, i ≤ 16 → V mX8_rewritesOf 1 0 0 (fun r' w' z => r' = some (.int (nI (cnt (fun k => decide (0 ≤ σ (1808 + 65 * k)) && (decide (x < 0) || σ (1808 + 65 * k + 2) == x)) 16))) ∧ w' = w ∧ z = sz) (w) (sz) (0) (0) [some (.ref o), some (.int x), some (.int (nI (cnt (fun k => decide (0 ≤ σ (1808 + 65 * k)) && (decide (x < 0) || σ (1808 + 65 * k + 2) == x)) i))), some (.int (nI i))] [] 4 := by
    refine dn (fun i hi ih => ?_)
    refine v_iload_n dX8_rewritesOf_4 rfl ?_
    refine v_bipush (v := nI 16) dX8_rewritesOf_5 (by decide) ?_
    refine v_icmp_geN (tgt := 55) dX8_rewritesOf_7 (by decide) (by omega) (by omega) (fun b7 => ?_) (fun b7 => ?_)
    ·
      refine v_iload_n dX8_rewritesOf_55 rfl ?_
      refine v_iret dX8_rewritesOf_56 rfl (Nat.le_refl _) (Nat.le_refl _) ?_
      have ei : i = 16 := by omega
      subst ei
      exact ⟨rfl, rfl, rfl⟩
    ·
      refine v_iload_n dX8_rewritesOf_10 rfl ?_
      refine v_aload_n dX8_rewritesOf_11 rfl ?_
      refine v_get 0 dX8_rewritesOf_12 FTX8 (by decide) rfl fl_X8_7 hM.1 rfl ?_
      refine v_iload_n dX8_rewritesOf_15 rfl ?_
      refine u_rS1 oX8_paper dX8_rewritesOf_16 ml_X8_49 (c_paper i) (by decide) (Nat.le_of_ble_eq_true rfl) (Nat.le_refl _) (Nat.le_refl _) ?_
      refine v_iald _ dX8_rewritesOf_19 hM.2.1 rfl (by omega) (by decide) ?_
      refine v_if_lt (tgt := 46) dX8_rewritesOf_20 (by decide) (fun b20 => ?_) (fun b20 => ?_)
      ·
        have q := cn0 (p := (fun k => decide (0 ≤ σ (1808 + 65 * k)) && (decide (x < 0) || σ (1808 + 65 * k + 2) == x))) (i := i) (by simp [Int32.not_le.mpr b20])
        refine v_iconst (v := nI 0) dX8_rewritesOf_46 (by decide) ?_
        refine v_iaddN dX8_rewritesOf_47 ?_
        refine v_istore_n dX8_rewritesOf_48 (by decide) rfl ?_
        refine v_iincN dX8_rewritesOf_49 (by decide) rfl rfl rfl ?_
        refine v_goto (tgt := 4) dX8_rewritesOf_52 (by decide) ?_
        refine v_eqL ?_ (ih (by omega))
        rw [← q]
        rfl
      ·
        have q1 : (0 : Int32) ≤ σ (1808 + 65 * i) := Int32.not_lt.mp b20
        refine v_iload_n dX8_rewritesOf_23 rfl ?_
        refine v_if_lt (tgt := 42) dX8_rewritesOf_24 (by decide) (fun b24 => ?_) (fun b24 => ?_)
        ·
          have q := cn1 (p := (fun k => decide (0 ≤ σ (1808 + 65 * k)) && (decide (x < 0) || σ (1808 + 65 * k + 2) == x))) (i := i) (by simp [q1, b24])
          refine v_iconst (v := nI 1) dX8_rewritesOf_42 (by decide) ?_
          refine v_goto (tgt := 47) dX8_rewritesOf_43 (by decide) ?_
          refine v_iaddN dX8_rewritesOf_47 ?_
          refine v_istore_n dX8_rewritesOf_48 (by decide) rfl ?_
          refine v_iincN dX8_rewritesOf_49 (by decide) rfl rfl rfl ?_
          refine v_goto (tgt := 4) dX8_rewritesOf_52 (by decide) ?_
          refine v_eqL ?_ (ih (by omega))
          rw [← q]
          rfl
        ·
          refine v_aload_n dX8_rewritesOf_27 rfl ?_
          refine v_get 0 dX8_rewritesOf_28 FTX8 (by decide) rfl fl_X8_7 hM.1 rfl ?_
          refine v_iload_n dX8_rewritesOf_31 rfl ?_
          refine u_rS1 oX8_paper dX8_rewritesOf_32 ml_X8_49 (c_paper i) (by decide) (Nat.le_of_ble_eq_true rfl) (Nat.le_refl _) (Nat.le_refl _) ?_
          refine v_iconst (v := nI 2) dX8_rewritesOf_35 (by decide) ?_
          refine v_iaddN dX8_rewritesOf_36 ?_
          refine v_iald _ dX8_rewritesOf_37 hM.2.1 rfl (by omega) (by decide) ?_
          refine v_iload_n dX8_rewritesOf_38 rfl ?_
          refine v_icmp_ne (tgt := 46) dX8_rewritesOf_39 (by decide) (fun b39 => ?_) (fun b39 => ?_)
          ·
            have q := cn0 (p := (fun k => decide (0 ≤ σ (1808 + 65 * k)) && (decide (x < 0) || σ (1808 + 65 * k + 2) == x))) (i := i) (by simp [b24, b39])
            refine v_iconst (v := nI 0) dX8_rewritesOf_46 (by decide) ?_
            refine v_iaddN dX8_rewritesOf_47 ?_
            refine v_istore_n dX8_rewritesOf_48 (by decide) rfl ?_
            refine v_iincN dX8_rewritesOf_49 (by decide) rfl rfl rfl ?_
            refine v_goto (tgt := 4) dX8_rewritesOf_52 (by decide) ?_
            refine v_eqL ?_ (ih (by omega))
            rw [← q]
            rfl
          ·
            have q := cn1 (p := (fun k => decide (0 ≤ σ (1808 + 65 * k)) && (decide (x < 0) || σ (1808 + 65 * k + 2) == x))) (i := i) (by simp [q1, b39])
            refine v_iconst (v := nI 1) dX8_rewritesOf_42 (by decide) ?_
            refine v_goto (tgt := 47) dX8_rewritesOf_43 (by decide) ?_
            refine v_iaddN dX8_rewritesOf_47 ?_
            refine v_istore_n dX8_rewritesOf_48 (by decide) rfl ?_
            refine v_iincN dX8_rewritesOf_49 (by decide) rfl rfl rfl ?_
            refine v_goto (tgt := 4) dX8_rewritesOf_52 (by decide) ?_
            refine v_eqL ?_ (ih (by omega))
            rw [← q]
            rfl
  exact LP4 0 (Nat.zero_le _)
set_option maxHeartbeats 4000000 in
set_option maxRecDepth 100000 in
theorem c_votesOf {w : Wd} {o ns tn : Nat} {kp : Int32} {σ tx cm : Nat → Int32} (hM : MW w o ns tn kp σ tx cm) (v : Nat) (hv : v < 10) : Rd mX8_votesOf 0 [.ref o, .int (nI v)] w (some (.int (nI (vo σ v)))) := by
  intro sz
  refine Ev.ofV [some (.ref o), some (.int (nI v)), none, none] (by decide) (Nat.le_of_ble_eq_true rfl) rfl rfl rfl ?_
  refine v_iconst (v := nI 0) dX8_votesOf_0 (by decide) ?_
  refine v_istore_n dX8_votesOf_1 (by decide) rfl ?_
  refine v_iconst (v := nI 0) dX8_votesOf_2 (by decide) ?_
  refine v_istore_n dX8_votesOf_3 (by decide) rfl ?_
  have LP4 : ∀ i, i ≤ 24 → V mX8_votesOf 0 0 0 (fun r' w' z => r' = some (.int (nI (vo σ v))) ∧ w' = w ∧ z = sz) (w) (sz) (0) (0) [some (.ref o), some (.int (nI v)), some (.int (nI (cnt (fun k => decide (0 ≤ σ (32 + 24 * v + k))) i))), some (.int (nI i))] [] 4 := by
    refine dn (fun i hi ih => ?_)
    refine v_iload_n dX8_votesOf_4 rfl ?_
    refine v_bipush (v := nI 24) dX8_votesOf_5 (by decide) ?_
    refine v_icmp_geN (tgt := 41) dX8_votesOf_7 (by decide) (by omega) (by omega) (fun b7 => ?_) (fun b7 => ?_)
    ·
      refine v_iload_n dX8_votesOf_41 rfl ?_
      refine v_iret dX8_votesOf_42 rfl (Nat.le_refl _) (Nat.le_refl _) ?_
      have ei : i = 24 := by omega
      subst ei
      exact ⟨rfl, rfl, rfl⟩
    ·
      refine v_iload_n dX8_votesOf_10 rfl ?_
      refine v_aload_n dX8_votesOf_11 rfl ?_
      refine v_get 0 dX8_votesOf_12 FTX8 (by decide) rfl fl_X8_7 hM.1 rfl ?_
      refine v_bipush (v := nI 32) dX8_votesOf_15 (by decide) ?_
      refine v_bipush (v := nI 24) dX8_votesOf_17 (by decide) ?_
      refine v_iload_n dX8_votesOf_19 rfl ?_
      refine v_imulN dX8_votesOf_20 ?_
      refine v_iaddN dX8_votesOf_21 ?_
      refine v_iload_n dX8_votesOf_22 rfl ?_
      refine v_iaddN dX8_votesOf_23 ?_
      refine v_iald _ dX8_votesOf_24 hM.2.1 rfl (by omega) (by decide) ?_
      refine v_if_lt (tgt := 32) dX8_votesOf_25 (by decide) (fun b25 => ?_) (fun b25 => ?_)
      ·
        have q := cn0 (p := (fun k => decide (0 ≤ σ (32 + 24 * v + k)))) (i := i) (by simp [Int32.not_le.mpr b25])
        refine v_iconst (v := nI 0) dX8_votesOf_32 (by decide) ?_
        refine v_iaddN dX8_votesOf_33 ?_
        refine v_istore_n dX8_votesOf_34 (by decide) rfl ?_
        refine v_iincN dX8_votesOf_35 (by decide) rfl rfl rfl ?_
        refine v_goto (tgt := 4) dX8_votesOf_38 (by decide) ?_
        refine v_eqL ?_ (ih (by omega))
        rw [← q]
        rfl
      ·
        have q := cn1 (p := (fun k => decide (0 ≤ σ (32 + 24 * v + k)))) (i := i) (by simp [Int32.not_lt.mp b25])
        refine v_iconst (v := nI 1) dX8_votesOf_28 (by decide) ?_
        refine v_goto (tgt := 33) dX8_votesOf_29 (by decide) ?_
        refine v_iaddN dX8_votesOf_33 ?_
        refine v_istore_n dX8_votesOf_34 (by decide) rfl ?_
        refine v_iincN dX8_votesOf_35 (by decide) rfl rfl rfl ?_
        refine v_goto (tgt := 4) dX8_votesOf_38 (by decide) ?_
        refine v_eqL ?_ (ih (by omega))
        rw [← q]
        rfl
  exact LP4 0 (Nat.zero_le _)
set_option maxHeartbeats 4000000 in
set_option maxRecDepth 100000 in
theorem c_allVotes {w : Wd} {o ns tn : Nat} {kp : Int32} {σ tx cm : Nat → Int32} (hM : MW w o ns tn kp σ tx cm) : Rd mX8_allVotes 1 [.ref o] w (some (.int (nI (smN (vo σ) 10)))) := by
  intro sz
  refine Ev.ofV [some (.ref o), none, none] (by decide) (Nat.le_of_ble_eq_true rfl) rfl rfl rfl ?_
  refine v_iconst (v := nI 0) dX8_allVotes_0 (by decide) ?_
  refine v_istore_n dX8_allVotes_1 (by decide) rfl ?_
  refine v_iconst (v := nI 0) dX8_allVotes_2 (by decide) ?_
  refine v_istore_n dX8_allVotes_3 (by decide) rfl ?_
  have LP4 : ∀ i, i ≤ 10 → V mX8_allVotes 1 0 0 (fun r' w' z => r' = some (.int (nI (smN (vo σ) 10))) ∧ w' = w ∧ z = sz) (w) (sz) (0) (0) [some (.ref o), some (.int (nI (smN (vo σ) i))), some (.int (nI i))] [] 4 := by
    refine dn (fun i hi ih => ?_)
    refine v_iload_n dX8_allVotes_4 rfl ?_
    refine v_bipush (v := nI 10) dX8_allVotes_5 (by decide) ?_
    refine v_icmp_geN (tgt := 24) dX8_allVotes_7 (by decide) (by omega) (by omega) (fun b7 => ?_) (fun b7 => ?_)
    ·
      refine v_iload_n dX8_allVotes_24 rfl ?_
      refine v_iret dX8_allVotes_25 rfl (Nat.le_refl _) (Nat.le_refl _) ?_
      have ei : i = 10 := by omega
      subst ei
      exact ⟨rfl, rfl, rfl⟩
    ·
      refine v_iload_n dX8_allVotes_10 rfl ?_
      refine v_aload_n dX8_allVotes_11 rfl ?_
      refine v_iload_n dX8_allVotes_12 rfl ?_
      refine u_rV1 oX8_votesOf dX8_allVotes_13 ml_X8_131 (c_votesOf hM i (by omega)) hM.1 (by decide) (Nat.le_of_ble_eq_true rfl) (Nat.le_refl _) (Nat.le_refl _) ?_
      refine v_iaddN dX8_allVotes_16 ?_
      refine v_istore_n dX8_allVotes_17 (by decide) rfl ?_
      refine v_iincN dX8_allVotes_18 (by decide) rfl rfl rfl ?_
      refine v_goto (tgt := 4) dX8_allVotes_21 (by decide) ?_
      exact ih (by omega)
  exact LP4 0 (Nat.zero_le _)
set_option maxHeartbeats 4000000 in
set_option maxRecDepth 100000 in
theorem c_standing {w : Wd} {o ns tn : Nat} {kp : Int32} {σ tx cm : Nat → Int32} (hM : MW w o ns tn kp σ tx cm) (hl : ∀ p, p < 24 → ub (σ (272 + 64 * p)) 61) (x : Int32) : Rd mX8_standing 0 [.ref o, .int x] w (some (.int (nI (cnt (fun p => decide (0 < ln σ p) && σ (272 + 64 * p + 1) == x) 24)))) := by
  intro sz
  refine Ev.ofV [some (.ref o), some (.int x), none, none, none] (by decide) (Nat.le_of_ble_eq_true rfl) rfl rfl rfl ?_
  refine v_iconst (v := nI 0) dX8_standing_0 (by decide) ?_
  refine v_istore_n dX8_standing_1 (by decide) rfl ?_
  refine v_iconst (v := nI 0) dX8_standing_2 (by decide) ?_
  refine v_istore_n dX8_standing_3 (by decide) rfl ?_
  have LP4 : ∀ i, i ≤ 24 → V mX8_standing 0 0 0 (fun r' w' z => r' = some (.int (nI (cnt (fun p => decide (0 < ln σ p) && σ (272 + 64 * p + 1) == x) 24))) ∧ w' = w ∧ z = sz) (w) (sz) (0) (0) [some (.ref o), some (.int x), some (.int (nI (cnt (fun p => decide (0 < ln σ p) && σ (272 + 64 * p + 1) == x) i))), some (.int (nI i)), none] [] 4 := by
    refine dn (fun i hi ih => ?_)
    refine v_iload_n dX8_standing_4 rfl ?_
    refine v_bipush (v := nI 24) dX8_standing_5 (by decide) ?_
    refine v_icmp_geN (tgt := 57) dX8_standing_7 (by decide) (by omega) (by omega) (fun b7 => ?_) (fun b7 => ?_)
    ·
      refine v_iload_n dX8_standing_57 rfl ?_
      refine v_iret dX8_standing_58 rfl (Nat.le_refl _) (Nat.le_refl _) ?_
      have ei : i = 24 := by omega
      subst ei
      exact ⟨rfl, rfl, rfl⟩
    ·
      refine v_sipush (v := nI 272) dX8_standing_10 (by decide) ?_
      refine v_bipush (v := nI 64) dX8_standing_13 (by decide) ?_
      refine v_iload_n dX8_standing_15 rfl ?_
      refine v_imulN dX8_standing_16 ?_
      refine v_iaddN dX8_standing_17 ?_
      refine v_istore dX8_standing_18 (by decide) rfl ?_
      refine v_iload_n dX8_standing_20 rfl ?_
      refine v_aload_n dX8_standing_21 rfl ?_
      refine v_get 0 dX8_standing_22 FTX8 (by decide) rfl fl_X8_7 hM.1 rfl ?_
      refine v_iload dX8_standing_25 rfl ?_
      refine v_ialdN _ dX8_standing_27 hM.2.1 rfl (by omega) (by decide) (hl i (by omega)).1 ?_
      refine v_if_leN (tgt := 48) dX8_standing_28 (by decide) (by have := (hl i (by omega)).2; omega) (fun b28 => ?_) (fun b28 => ?_)
      ·
        have q := cn0 (p := (fun p => decide (0 < ln σ p) && σ (272 + 64 * p + 1) == x)) (i := i) (by simp [ln, b28])
        refine v_iconst (v := nI 0) dX8_standing_48 (by decide) ?_
        refine v_iaddN dX8_standing_49 ?_
        refine v_istore_n dX8_standing_50 (by decide) rfl ?_
        refine v_iincN dX8_standing_51 (by decide) rfl rfl rfl ?_
        refine v_goto (tgt := 4) dX8_standing_54 (by decide) ?_
        refine v_drop 4 ?_
        refine v_eqL ?_ (ih (by omega))
        rw [← q]
        rfl
      ·
        refine v_aload_n dX8_standing_31 rfl ?_
        refine v_get 0 dX8_standing_32 FTX8 (by decide) rfl fl_X8_7 hM.1 rfl ?_
        refine v_iload dX8_standing_35 rfl ?_
        refine v_iconst (v := nI 1) dX8_standing_37 (by decide) ?_
        refine v_iaddN dX8_standing_38 ?_
        refine v_iald _ dX8_standing_39 hM.2.1 rfl (by omega) (by decide) ?_
        refine v_iload_n dX8_standing_40 rfl ?_
        refine v_icmp_ne (tgt := 48) dX8_standing_41 (by decide) (fun b41 => ?_) (fun b41 => ?_)
        ·
          have q := cn0 (p := (fun p => decide (0 < ln σ p) && σ (272 + 64 * p + 1) == x)) (i := i) (by simp [b41])
          refine v_iconst (v := nI 0) dX8_standing_48 (by decide) ?_
          refine v_iaddN dX8_standing_49 ?_
          refine v_istore_n dX8_standing_50 (by decide) rfl ?_
          refine v_iincN dX8_standing_51 (by decide) rfl rfl rfl ?_
          refine v_goto (tgt := 4) dX8_standing_54 (by decide) ?_
          refine v_drop 4 ?_
          refine v_eqL ?_ (ih (by omega))
          rw [← q]
          rfl
        ·
          have q := cn1 (p := (fun p => decide (0 < ln σ p) && σ (272 + 64 * p + 1) == x)) (i := i) (by simp [ln, b28, b41])
          refine v_iconst (v := nI 1) dX8_standing_44 (by decide) ?_
          refine v_goto (tgt := 49) dX8_standing_45 (by decide) ?_
          refine v_iaddN dX8_standing_49 ?_
          refine v_istore_n dX8_standing_50 (by decide) rfl ?_
          refine v_iincN dX8_standing_51 (by decide) rfl rfl rfl ?_
          refine v_goto (tgt := 4) dX8_standing_54 (by decide) ?_
          refine v_drop 4 ?_
          refine v_eqL ?_ (ih (by omega))
          rw [← q]
          rfl
  exact LP4 0 (Nat.zero_le _)
