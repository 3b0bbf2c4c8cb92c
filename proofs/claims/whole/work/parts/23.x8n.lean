theorem inB_out {x : Int32} {b : Nat} (hb : b < 2147483648) (h : inB x b = false) : x.toInt < 0 ∨ (b : Int) < x.toInt := by
  simp only [inB, decide_eq_false_iff_not] at h
  by_cases h1 : nI 0 ≤ x
  · right
    have h2 : ¬ x ≤ nI b := fun z => h ⟨h1, z⟩
    have h3 := mt Int32.le_iff_toInt_le.mpr h2
    rw [nI_toInt (by omega)] at h3
    omega
  · left
    have h3 := mt Int32.le_iff_toInt_le.mpr h1
    rw [nI_toInt (by omega)] at h3
    omega
/-- the last place with p, and the first -/
def lsO (p : Nat → Bool) : Nat → Option Nat
  | 0 => none
  | n + 1 => if p n = true then some n else lsO p n
theorem lst_eq (p : Nat → Bool) : ∀ n, lst p n = oI (lsO p n)
  | 0 => rfl
  | n + 1 => by
    simp only [lst, lsO]
    split
    · rfl
    · exact lst_eq p n
theorem lsO_some {p : Nat → Bool} {k : Nat} : ∀ {n}, lsO p n = some k → k < n ∧ p k = true
  | 0, h => by simp [lsO] at h
  | n + 1, h => by
    by_cases e : p n = true
    · simp only [lsO, if_pos e] at h
      cases h
      exact ⟨by omega, e⟩
    · simp only [lsO, if_neg e] at h
      have := lsO_some h
      exact ⟨by omega, this.2⟩
theorem lsO_none {p : Nat → Bool} : ∀ {n}, lsO p n = none → ∀ k, k < n → p k = false
  | 0, _, k, hk => absurd hk (Nat.not_lt_zero _)
  | n + 1, h, k, hk => by
    by_cases e : p n = true
    · simp only [lsO, if_pos e] at h
      cases h
    · simp only [lsO, if_neg e] at h
      by_cases e1 : k = n
      · rw [e1]
        simpa using e
      · exact lsO_none h k (by omega)
def pairB (x y : Int32) : Bool := inB x 7 && inB y 2
def plB (x y : Int32) : Nat := 3 * nt x + nt y
def labelOfI (σ : Nat → Int32) (x y z : Int32) : Int32 := if (inB x 7 && inB y 2) = true then (if inB z 4 = true then (if ln σ (3 * nt x + nt y) = 0 then -5 else
    match nt z with
    | 0 => nI (nwl σ (3 * nt x + nt y))
    | 1 => σ (272 + 64 * (3 * nt x + nt y))
    | 2 => if σ (272 + 64 * (3 * nt x + nt y) + 1) < 0 then -5 else σ (272 + 64 * (3 * nt x + nt y) + 1)
    | 3 => σ (272 + 64 * (3 * nt x + nt y) + 2)
    | _ => σ (272 + 64 * (3 * nt x + nt y) + 3)) else -2) else -1
def letterI (σ : Nat → Int32) (x y z : Int32) : Int32 := if (inB x 7 && inB y 2) = true then (if z < 0 then -2 else if nt z < ln σ (3 * nt x + nt y) then σ (272 + 64 * (3 * nt x + nt y) + 4 + nt z) else -5) else -1
def roomI (σ : Nat → Int32) (x z : Int32) : Int32 := if inB x 3 = true then (if inB z 6 = true then
    match nt z with
    | 0 => σ (12 + nt x)
    | 1 => nI (cnt (fun a => σ a == x) 8)
    | 2 => σ (8 + nt x)
    | j => nI (lbO σ (nt x) (j - 3) 8) else -2) else -1
def rwV (σ : Nat → Int32) (x : Int32) : Nat := cnt (fun k => decide (0 ≤ σ (1808 + 65 * k)) && (decide (x < 0) || σ (1808 + 65 * k + 2) == x)) 16
def visitorI (σ : Nat → Int32) (x z : Int32) : Int32 := if inB x 9 = true then (if inB z 3 = true then
    match nt z with
    | 0 => nI (rwV σ x)
    | 1 => σ (22 + nt x)
    | 2 => nI (vo σ (nt x))
    | _ => nI (cnt (fun p => decide (0 < ln σ p) && σ (272 + 64 * p + 1) == x) 24) else -2) else -1
def countI (σ : Nat → Int32) (ns tn : Nat) (z : Int32) : Int32 := if inB z 11 = true then
    match nt z with
    | 0 => nI (lbs σ)
    | 1 => nI (rwV σ (-1))
    | 2 => σ 18
    | 3 => nI (smN (vo σ) 10)
    | 4 => σ 17
    | 5 => σ 16
    | 6 => nI (lbO σ 0 1 8 + lbO σ 1 1 8 + lbO σ 2 1 8 + lbO σ 3 1 8)
    | 7 => σ 19
    | 8 => σ 20
    | 9 => σ 21
    | 10 => nI ns
    | _ => nI tn else -2
set_option maxHeartbeats 4000000 in
set_option maxRecDepth 100000 in
theorem c_room0 {w : Wd} {o ns tn : Nat} {kp : Int32} {σ tx cm : Nat → Int32} (hM : MW w o ns tn kp σ tx cm) (hW : WS σ) (a : Nat) (ha : a < 4) : Rd mX8_room 3 [.ref o, .int (nI a), .int (nI 0)] w (some (.int (roomI σ (nI a) (nI 0)))) := by
  intro sz
  refine Ev.ofV [some (.ref o), some (.int (nI a)), some (.int (nI 0))] (by decide) (Nat.le_of_ble_eq_true rfl) rfl rfl rfl ?_
  have hga : inB (nI a) 3 = true := by rw [inB_nI (by omega) (by omega)]; simp; omega
  refine v_iload_n dX8_room_0 rfl ?_
  refine v_iconst (v := nI 0) dX8_room_1 (by decide) ?_
  refine v_iconst (v := nI 3) dX8_room_2 (by decide) ?_
  refine u_rS3 oX8_in dX8_room_3 ml_X8_59 (c_inB (nI a) 3) (by decide) (Nat.le_of_ble_eq_true rfl) (Nat.le_refl _) (Nat.le_refl _) ?_
  refine v_if_neB (tgt := 11) dX8_room_6 (by decide) (fun b6 => ?_) (fun b6 => ?_)
  ·
    refine v_iload_n dX8_room_11 rfl ?_
    refine v_tableIn (tgt := 56) (off := 44) dX8_room_12 (by decide) (by decide) (by decide) (by decide) ?_
    refine v_aload_n dX8_room_56 rfl ?_
    refine v_get 0 dX8_room_57 FTX8 (by decide) rfl fl_X8_7 hM.1 rfl ?_
    refine v_bipush (v := nI 12) dX8_room_60 (by decide) ?_
    refine v_iload_n dX8_room_62 rfl ?_
    refine v_iaddN dX8_room_63 ?_
    refine v_iald _ dX8_room_64 hM.2.1 rfl (by omega) (by decide) ?_
    refine v_iret dX8_room_65 rfl (Nat.le_refl _) (Nat.le_refl _) ?_
    exact ⟨by unfold roomI; rw [if_pos hga, if_pos (by decide), nt_nI (by omega), nt_nI (by omega)]; rfl, rfl, rfl⟩
  ·
    exact absurd hga (by rw [b6]; decide)
set_option maxHeartbeats 4000000 in
set_option maxRecDepth 100000 in
theorem c_room1 {w : Wd} {o ns tn : Nat} {kp : Int32} {σ tx cm : Nat → Int32} (hM : MW w o ns tn kp σ tx cm) (hW : WS σ) (a : Nat) (ha : a < 4) : Rd mX8_room 3 [.ref o, .int (nI a), .int (nI 1)] w (some (.int (roomI σ (nI a) (nI 1)))) := by
  intro sz
  refine Ev.ofV [some (.ref o), some (.int (nI a)), some (.int (nI 1))] (by decide) (Nat.le_of_ble_eq_true rfl) rfl rfl rfl ?_
  have hga : inB (nI a) 3 = true := by rw [inB_nI (by omega) (by omega)]; simp; omega
  refine v_iload_n dX8_room_0 rfl ?_
  refine v_iconst (v := nI 0) dX8_room_1 (by decide) ?_
  refine v_iconst (v := nI 3) dX8_room_2 (by decide) ?_
  refine u_rS3 oX8_in dX8_room_3 ml_X8_59 (c_inB (nI a) 3) (by decide) (Nat.le_of_ble_eq_true rfl) (Nat.le_refl _) (Nat.le_refl _) ?_
  refine v_if_neB (tgt := 11) dX8_room_6 (by decide) (fun b6 => ?_) (fun b6 => ?_)
  ·
    refine v_iload_n dX8_room_11 rfl ?_
    refine v_tableIn (tgt := 66) (off := 54) dX8_room_12 (by decide) (by decide) (by decide) (by decide) ?_
    refine v_aload_n dX8_room_66 rfl ?_
    refine v_iload_n dX8_room_67 rfl ?_
    refine u_rV1 oX8_worksOf dX8_room_68 ml_X8_122 (c_worksOf hM (nI a)) hM.1 (by decide) (Nat.le_of_ble_eq_true rfl) (Nat.le_refl _) (Nat.le_refl _) ?_
    refine v_iret dX8_room_71 rfl (Nat.le_refl _) (Nat.le_refl _) ?_
    exact ⟨by unfold roomI; rw [if_pos hga, if_pos (by decide), nt_nI (by omega), nt_nI (by omega)]; rfl, rfl, rfl⟩
  ·
    exact absurd hga (by rw [b6]; decide)
set_option maxHeartbeats 4000000 in
set_option maxRecDepth 100000 in
theorem c_room2 {w : Wd} {o ns tn : Nat} {kp : Int32} {σ tx cm : Nat → Int32} (hM : MW w o ns tn kp σ tx cm) (hW : WS σ) (a : Nat) (ha : a < 4) : Rd mX8_room 3 [.ref o, .int (nI a), .int (nI 2)] w (some (.int (roomI σ (nI a) (nI 2)))) := by
  intro sz
  refine Ev.ofV [some (.ref o), some (.int (nI a)), some (.int (nI 2))] (by decide) (Nat.le_of_ble_eq_true rfl) rfl rfl rfl ?_
  have hga : inB (nI a) 3 = true := by rw [inB_nI (by omega) (by omega)]; simp; omega
  refine v_iload_n dX8_room_0 rfl ?_
  refine v_iconst (v := nI 0) dX8_room_1 (by decide) ?_
  refine v_iconst (v := nI 3) dX8_room_2 (by decide) ?_
  refine u_rS3 oX8_in dX8_room_3 ml_X8_59 (c_inB (nI a) 3) (by decide) (Nat.le_of_ble_eq_true rfl) (Nat.le_refl _) (Nat.le_refl _) ?_
  refine v_if_neB (tgt := 11) dX8_room_6 (by decide) (fun b6 => ?_) (fun b6 => ?_)
  ·
    refine v_iload_n dX8_room_11 rfl ?_
    refine v_tableIn (tgt := 72) (off := 60) dX8_room_12 (by decide) (by decide) (by decide) (by decide) ?_
    refine v_aload_n dX8_room_72 rfl ?_
    refine v_get 0 dX8_room_73 FTX8 (by decide) rfl fl_X8_7 hM.1 rfl ?_
    refine v_bipush (v := nI 8) dX8_room_76 (by decide) ?_
    refine v_iload_n dX8_room_78 rfl ?_
    refine v_iaddN dX8_room_79 ?_
    refine v_iald _ dX8_room_80 hM.2.1 rfl (by omega) (by decide) ?_
    refine v_iret dX8_room_81 rfl (Nat.le_refl _) (Nat.le_refl _) ?_
    exact ⟨by unfold roomI; rw [if_pos hga, if_pos (by decide), nt_nI (by omega), nt_nI (by omega)]; rfl, rfl, rfl⟩
  ·
    exact absurd hga (by rw [b6]; decide)
set_option maxHeartbeats 4000000 in
set_option maxRecDepth 100000 in
theorem c_room3 {w : Wd} {o ns tn : Nat} {kp : Int32} {σ tx cm : Nat → Int32} (hM : MW w o ns tn kp σ tx cm) (hW : WS σ) (a : Nat) (ha : a < 4) : Rd mX8_room 3 [.ref o, .int (nI a), .int (nI 3)] w (some (.int (roomI σ (nI a) (nI 3)))) := by
  intro sz
  refine Ev.ofV [some (.ref o), some (.int (nI a)), some (.int (nI 3))] (by decide) (Nat.le_of_ble_eq_true rfl) rfl rfl rfl ?_
  have hga : inB (nI a) 3 = true := by rw [inB_nI (by omega) (by omega)]; simp; omega
  refine v_iload_n dX8_room_0 rfl ?_
  refine v_iconst (v := nI 0) dX8_room_1 (by decide) ?_
  refine v_iconst (v := nI 3) dX8_room_2 (by decide) ?_
  refine u_rS3 oX8_in dX8_room_3 ml_X8_59 (c_inB (nI a) 3) (by decide) (Nat.le_of_ble_eq_true rfl) (Nat.le_refl _) (Nat.le_refl _) ?_
  refine v_if_neB (tgt := 11) dX8_room_6 (by decide) (fun b6 => ?_) (fun b6 => ?_)
  ·
    refine v_iload_n dX8_room_11 rfl ?_
    refine v_tableIn (tgt := 82) (off := 70) dX8_room_12 (by decide) (by decide) (by decide) (by decide) ?_
    refine v_aload_n dX8_room_82 rfl ?_
    refine v_iload_n dX8_room_83 rfl ?_
    refine v_iload_n dX8_room_84 rfl ?_
    refine v_iconst (v := nI 3) dX8_room_85 (by decide) ?_
    refine v_isubN dX8_room_86 (by omega) ?_
    refine u_rV2 oX8_labelsOf dX8_room_87 ml_X8_125 (c_labelsOf hM (fun p hp => (hW.2.2.2.2.2.1 p hp).1) a (3 - 3) ha (by omega)) hM.1 (by decide) (Nat.le_of_ble_eq_true rfl) (Nat.le_refl _) (Nat.le_refl _) ?_
    refine v_iret dX8_room_90 rfl (Nat.le_refl _) (Nat.le_refl _) ?_
    exact ⟨by unfold roomI; rw [if_pos hga, if_pos (by decide), nt_nI (by omega), nt_nI (by omega)]; rfl, rfl, rfl⟩
  ·
    exact absurd hga (by rw [b6]; decide)
set_option maxHeartbeats 4000000 in
set_option maxRecDepth 100000 in
theorem c_room4 {w : Wd} {o ns tn : Nat} {kp : Int32} {σ tx cm : Nat → Int32} (hM : MW w o ns tn kp σ tx cm) (hW : WS σ) (a : Nat) (ha : a < 4) : Rd mX8_room 3 [.ref o, .int (nI a), .int (nI 4)] w (some (.int (roomI σ (nI a) (nI 4)))) := by
  intro sz
  refine Ev.ofV [some (.ref o), some (.int (nI a)), some (.int (nI 4))] (by decide) (Nat.le_of_ble_eq_true rfl) rfl rfl rfl ?_
  have hga : inB (nI a) 3 = true := by rw [inB_nI (by omega) (by omega)]; simp; omega
  refine v_iload_n dX8_room_0 rfl ?_
  refine v_iconst (v := nI 0) dX8_room_1 (by decide) ?_
  refine v_iconst (v := nI 3) dX8_room_2 (by decide) ?_
  refine u_rS3 oX8_in dX8_room_3 ml_X8_59 (c_inB (nI a) 3) (by decide) (Nat.le_of_ble_eq_true rfl) (Nat.le_refl _) (Nat.le_refl _) ?_
  refine v_if_neB (tgt := 11) dX8_room_6 (by decide) (fun b6 => ?_) (fun b6 => ?_)
  ·
    refine v_iload_n dX8_room_11 rfl ?_
    refine v_tableIn (tgt := 82) (off := 70) dX8_room_12 (by decide) (by decide) (by decide) (by decide) ?_
    refine v_aload_n dX8_room_82 rfl ?_
    refine v_iload_n dX8_room_83 rfl ?_
    refine v_iload_n dX8_room_84 rfl ?_
    refine v_iconst (v := nI 3) dX8_room_85 (by decide) ?_
    refine v_isubN dX8_room_86 (by omega) ?_
    refine u_rV2 oX8_labelsOf dX8_room_87 ml_X8_125 (c_labelsOf hM (fun p hp => (hW.2.2.2.2.2.1 p hp).1) a (4 - 3) ha (by omega)) hM.1 (by decide) (Nat.le_of_ble_eq_true rfl) (Nat.le_refl _) (Nat.le_refl _) ?_
    refine v_iret dX8_room_90 rfl (Nat.le_refl _) (Nat.le_refl _) ?_
    exact ⟨by unfold roomI; rw [if_pos hga, if_pos (by decide), nt_nI (by omega), nt_nI (by omega)]; rfl, rfl, rfl⟩
  ·
    exact absurd hga (by rw [b6]; decide)
set_option maxHeartbeats 4000000 in
set_option maxRecDepth 100000 in
theorem c_room5 {w : Wd} {o ns tn : Nat} {kp : Int32} {σ tx cm : Nat → Int32} (hM : MW w o ns tn kp σ tx cm) (hW : WS σ) (a : Nat) (ha : a < 4) : Rd mX8_room 3 [.ref o, .int (nI a), .int (nI 5)] w (some (.int (roomI σ (nI a) (nI 5)))) := by
  intro sz
  refine Ev.ofV [some (.ref o), some (.int (nI a)), some (.int (nI 5))] (by decide) (Nat.le_of_ble_eq_true rfl) rfl rfl rfl ?_
  have hga : inB (nI a) 3 = true := by rw [inB_nI (by omega) (by omega)]; simp; omega
  refine v_iload_n dX8_room_0 rfl ?_
  refine v_iconst (v := nI 0) dX8_room_1 (by decide) ?_
  refine v_iconst (v := nI 3) dX8_room_2 (by decide) ?_
  refine u_rS3 oX8_in dX8_room_3 ml_X8_59 (c_inB (nI a) 3) (by decide) (Nat.le_of_ble_eq_true rfl) (Nat.le_refl _) (Nat.le_refl _) ?_
  refine v_if_neB (tgt := 11) dX8_room_6 (by decide) (fun b6 => ?_) (fun b6 => ?_)
  ·
    refine v_iload_n dX8_room_11 rfl ?_
    refine v_tableIn (tgt := 82) (off := 70) dX8_room_12 (by decide) (by decide) (by decide) (by decide) ?_
    refine v_aload_n dX8_room_82 rfl ?_
    refine v_iload_n dX8_room_83 rfl ?_
    refine v_iload_n dX8_room_84 rfl ?_
    refine v_iconst (v := nI 3) dX8_room_85 (by decide) ?_
    refine v_isubN dX8_room_86 (by omega) ?_
    refine u_rV2 oX8_labelsOf dX8_room_87 ml_X8_125 (c_labelsOf hM (fun p hp => (hW.2.2.2.2.2.1 p hp).1) a (5 - 3) ha (by omega)) hM.1 (by decide) (Nat.le_of_ble_eq_true rfl) (Nat.le_refl _) (Nat.le_refl _) ?_
    refine v_iret dX8_room_90 rfl (Nat.le_refl _) (Nat.le_refl _) ?_
    exact ⟨by unfold roomI; rw [if_pos hga, if_pos (by decide), nt_nI (by omega), nt_nI (by omega)]; rfl, rfl, rfl⟩
  ·
    exact absurd hga (by rw [b6]; decide)
set_option maxHeartbeats 4000000 in
set_option maxRecDepth 100000 in
theorem c_room6 {w : Wd} {o ns tn : Nat} {kp : Int32} {σ tx cm : Nat → Int32} (hM : MW w o ns tn kp σ tx cm) (hW : WS σ) (a : Nat) (ha : a < 4) : Rd mX8_room 3 [.ref o, .int (nI a), .int (nI 6)] w (some (.int (roomI σ (nI a) (nI 6)))) := by
  intro sz
  refine Ev.ofV [some (.ref o), some (.int (nI a)), some (.int (nI 6))] (by decide) (Nat.le_of_ble_eq_true rfl) rfl rfl rfl ?_
  have hga : inB (nI a) 3 = true := by rw [inB_nI (by omega) (by omega)]; simp; omega
  refine v_iload_n dX8_room_0 rfl ?_
  refine v_iconst (v := nI 0) dX8_room_1 (by decide) ?_
  refine v_iconst (v := nI 3) dX8_room_2 (by decide) ?_
  refine u_rS3 oX8_in dX8_room_3 ml_X8_59 (c_inB (nI a) 3) (by decide) (Nat.le_of_ble_eq_true rfl) (Nat.le_refl _) (Nat.le_refl _) ?_
  refine v_if_neB (tgt := 11) dX8_room_6 (by decide) (fun b6 => ?_) (fun b6 => ?_)
  ·
    refine v_iload_n dX8_room_11 rfl ?_
    refine v_tableIn (tgt := 82) (off := 70) dX8_room_12 (by decide) (by decide) (by decide) (by decide) ?_
    refine v_aload_n dX8_room_82 rfl ?_
    refine v_iload_n dX8_room_83 rfl ?_
    refine v_iload_n dX8_room_84 rfl ?_
    refine v_iconst (v := nI 3) dX8_room_85 (by decide) ?_
    refine v_isubN dX8_room_86 (by omega) ?_
    refine u_rV2 oX8_labelsOf dX8_room_87 ml_X8_125 (c_labelsOf hM (fun p hp => (hW.2.2.2.2.2.1 p hp).1) a (6 - 3) ha (by omega)) hM.1 (by decide) (Nat.le_of_ble_eq_true rfl) (Nat.le_refl _) (Nat.le_refl _) ?_
    refine v_iret dX8_room_90 rfl (Nat.le_refl _) (Nat.le_refl _) ?_
    exact ⟨by unfold roomI; rw [if_pos hga, if_pos (by decide), nt_nI (by omega), nt_nI (by omega)]; rfl, rfl, rfl⟩
  ·
    exact absurd hga (by rw [b6]; decide)
set_option maxHeartbeats 4000000 in
set_option maxRecDepth 100000 in
theorem c_room_out {w : Wd} {o ns tn : Nat} {kp : Int32} {σ tx cm : Nat → Int32} (hM : MW w o ns tn kp σ tx cm) (a : Nat) (ha : a < 4) (z : Int32) (hz : inB z 6 = false) : Rd mX8_room 3 [.ref o, .int (nI a), .int z] w (some (.int (roomI σ (nI a) z))) := by
  intro sz
  refine Ev.ofV [some (.ref o), some (.int (nI a)), some (.int z)] (by decide) (Nat.le_of_ble_eq_true rfl) rfl rfl rfl ?_
  have hga : inB (nI a) 3 = true := by rw [inB_nI (by omega) (by omega)]; simp; omega
  refine v_iload_n dX8_room_0 rfl ?_
  refine v_iconst (v := nI 0) dX8_room_1 (by decide) ?_
  refine v_iconst (v := nI 3) dX8_room_2 (by decide) ?_
  refine u_rS3 oX8_in dX8_room_3 ml_X8_59 (c_inB (nI a) 3) (by decide) (Nat.le_of_ble_eq_true rfl) (Nat.le_refl _) (Nat.le_refl _) ?_
  refine v_if_neB (tgt := 11) dX8_room_6 (by decide) (fun b6 => ?_) (fun b6 => ?_)
  ·
    refine v_iload_n dX8_room_11 rfl ?_
    refine v_tableOut (tgt := 91) dX8_room_12 (inB_out (b := 6) (by omega) hz) (by decide) ?_
    refine v_bipush (v := -2) dX8_room_91 (by decide) ?_
    refine v_iret dX8_room_93 rfl (Nat.le_refl _) (Nat.le_refl _) ?_
    exact ⟨by unfold roomI; rw [if_pos hga, if_neg (by rw [hz]; decide)], rfl, rfl⟩
  ·
    exact absurd hga (by rw [b6]; decide)
set_option maxHeartbeats 4000000 in
set_option maxRecDepth 100000 in
theorem c_room_no {w : Wd} {o ns tn : Nat} {kp : Int32} {σ tx cm : Nat → Int32} (hM : MW w o ns tn kp σ tx cm) (x z : Int32) (h : inB x 3 = false) : Rd mX8_room 3 [.ref o, .int x, .int z] w (some (.int (roomI σ x z))) := by
  intro sz
  refine Ev.ofV [some (.ref o), some (.int x), some (.int z)] (by decide) (Nat.le_of_ble_eq_true rfl) rfl rfl rfl ?_
  refine v_iload_n dX8_room_0 rfl ?_
  refine v_iconst (v := nI 0) dX8_room_1 (by decide) ?_
  refine v_iconst (v := nI 3) dX8_room_2 (by decide) ?_
  refine u_rS3 oX8_in dX8_room_3 ml_X8_59 (c_inB x 3) (by decide) (Nat.le_of_ble_eq_true rfl) (Nat.le_refl _) (Nat.le_refl _) ?_
  refine v_if_neB (tgt := 11) dX8_room_6 (by decide) (fun b6 => ?_) (fun b6 => ?_)
  ·
    exact absurd b6 (by rw [h]; decide)
  ·
    refine v_iconst (v := -1) dX8_room_9 (by decide) ?_
    refine v_iret dX8_room_10 rfl (Nat.le_refl _) (Nat.le_refl _) ?_
    exact ⟨by unfold roomI; rw [if_neg (by rw [h]; decide)], rfl, rfl⟩
theorem bfalse {b : Bool} (h : ¬ b = false) : b = true := by cases b <;> simp at *
theorem c_room {w : Wd} {o ns tn : Nat} {kp : Int32} {σ tx cm : Nat → Int32} (hM : MW w o ns tn kp σ tx cm) (hW : WS σ) (x z : Int32) : Rd mX8_room 3 [.ref o, .int x, .int z] w (some (.int (roomI σ x z))) := by
  by_cases h : inB x 3 = false
  · exact c_room_no hM x z h
  · have hx := inB_ub (by omega) (bfalse h)
    rw [hx.1]
    by_cases h2 : inB z 6 = false
    · exact c_room_out hM (nt x) hx.2 z h2
    · have hz := inB_ub (by omega) (bfalse h2)
      have hz2 := hz.2
      rw [hz.1]
      generalize nt z = c at hz2 ⊢
      match c, hz2 with
      | 0, _ => exact c_room0 hM hW (nt x) hx.2
      | 1, _ => exact c_room1 hM hW (nt x) hx.2
      | 2, _ => exact c_room2 hM hW (nt x) hx.2
      | 3, _ => exact c_room3 hM hW (nt x) hx.2
      | 4, _ => exact c_room4 hM hW (nt x) hx.2
      | 5, _ => exact c_room5 hM hW (nt x) hx.2
      | 6, _ => exact c_room6 hM hW (nt x) hx.2
set_option maxHeartbeats 4000000 in
set_option maxRecDepth 100000 in
theorem c_visitor0 {w : Wd} {o ns tn : Nat} {kp : Int32} {σ tx cm : Nat → Int32} (hM : MW w o ns tn kp σ tx cm) (hW : WS σ) (a : Nat) (ha : a < 10) : Rd mX8_visitor 2 [.ref o, .int (nI a), .int (nI 0)] w (some (.int (visitorI σ (nI a) (nI 0)))) := by
  intro sz
  refine Ev.ofV [some (.ref o), some (.int (nI a)), some (.int (nI 0))] (by decide) (Nat.le_of_ble_eq_true rfl) rfl rfl rfl ?_
  have hga : inB (nI a) 9 = true := by rw [inB_nI (by omega) (by omega)]; simp; omega
  refine v_iload_n dX8_visitor_0 rfl ?_
  refine v_iconst (v := nI 0) dX8_visitor_1 (by decide) ?_
  refine v_bipush (v := nI 9) dX8_visitor_2 (by decide) ?_
  refine u_rS3 oX8_in dX8_visitor_4 ml_X8_59 (c_inB (nI a) 9) (by decide) (Nat.le_of_ble_eq_true rfl) (Nat.le_refl _) (Nat.le_refl _) ?_
  refine v_if_neB (tgt := 12) dX8_visitor_7 (by decide) (fun b7 => ?_) (fun b7 => ?_)
  ·
    refine v_iload_n dX8_visitor_12 rfl ?_
    refine v_tableIn (tgt := 44) (off := 31) dX8_visitor_13 (by decide) (by decide) (by decide) (by decide) ?_
    refine v_aload_n dX8_visitor_44 rfl ?_
    refine v_iload_n dX8_visitor_45 rfl ?_
    refine u_rV1 oX8_rewritesOf dX8_visitor_46 ml_X8_128 (show Rd mX8_rewritesOf 1 _ w (some (.int (nI (rwV σ (nI a))))) from c_rewritesOf hM (nI a)) hM.1 (by decide) (Nat.le_of_ble_eq_true rfl) (Nat.le_refl _) (Nat.le_refl _) ?_
    refine v_iret dX8_visitor_49 rfl (Nat.le_refl _) (Nat.le_refl _) ?_
    exact ⟨by unfold visitorI; rw [if_pos hga, if_pos (by decide), nt_nI (by omega), nt_nI (by omega)]; rfl, rfl, rfl⟩
  ·
    exact absurd hga (by rw [b7]; decide)
set_option maxHeartbeats 4000000 in
set_option maxRecDepth 100000 in
theorem c_visitor1 {w : Wd} {o ns tn : Nat} {kp : Int32} {σ tx cm : Nat → Int32} (hM : MW w o ns tn kp σ tx cm) (hW : WS σ) (a : Nat) (ha : a < 10) : Rd mX8_visitor 2 [.ref o, .int (nI a), .int (nI 1)] w (some (.int (visitorI σ (nI a) (nI 1)))) := by
  intro sz
  refine Ev.ofV [some (.ref o), some (.int (nI a)), some (.int (nI 1))] (by decide) (Nat.le_of_ble_eq_true rfl) rfl rfl rfl ?_
  have hga : inB (nI a) 9 = true := by rw [inB_nI (by omega) (by omega)]; simp; omega
  refine v_iload_n dX8_visitor_0 rfl ?_
  refine v_iconst (v := nI 0) dX8_visitor_1 (by decide) ?_
  refine v_bipush (v := nI 9) dX8_visitor_2 (by decide) ?_
  refine u_rS3 oX8_in dX8_visitor_4 ml_X8_59 (c_inB (nI a) 9) (by decide) (Nat.le_of_ble_eq_true rfl) (Nat.le_refl _) (Nat.le_refl _) ?_
  refine v_if_neB (tgt := 12) dX8_visitor_7 (by decide) (fun b7 => ?_) (fun b7 => ?_)
  ·
    refine v_iload_n dX8_visitor_12 rfl ?_
    refine v_tableIn (tgt := 50) (off := 37) dX8_visitor_13 (by decide) (by decide) (by decide) (by decide) ?_
    refine v_aload_n dX8_visitor_50 rfl ?_
    refine v_get 0 dX8_visitor_51 FTX8 (by decide) rfl fl_X8_7 hM.1 rfl ?_
    refine v_bipush (v := nI 22) dX8_visitor_54 (by decide) ?_
    refine v_iload_n dX8_visitor_56 rfl ?_
    refine v_iaddN dX8_visitor_57 ?_
    refine v_iald _ dX8_visitor_58 hM.2.1 rfl (by omega) (by decide) ?_
    refine v_iret dX8_visitor_59 rfl (Nat.le_refl _) (Nat.le_refl _) ?_
    exact ⟨by unfold visitorI; rw [if_pos hga, if_pos (by decide), nt_nI (by omega), nt_nI (by omega)]; rfl, rfl, rfl⟩
  ·
    exact absurd hga (by rw [b7]; decide)
set_option maxHeartbeats 4000000 in
set_option maxRecDepth 100000 in
theorem c_visitor2 {w : Wd} {o ns tn : Nat} {kp : Int32} {σ tx cm : Nat → Int32} (hM : MW w o ns tn kp σ tx cm) (hW : WS σ) (a : Nat) (ha : a < 10) : Rd mX8_visitor 2 [.ref o, .int (nI a), .int (nI 2)] w (some (.int (visitorI σ (nI a) (nI 2)))) := by
  intro sz
  refine Ev.ofV [some (.ref o), some (.int (nI a)), some (.int (nI 2))] (by decide) (Nat.le_of_ble_eq_true rfl) rfl rfl rfl ?_
  have hga : inB (nI a) 9 = true := by rw [inB_nI (by omega) (by omega)]; simp; omega
  refine v_iload_n dX8_visitor_0 rfl ?_
  refine v_iconst (v := nI 0) dX8_visitor_1 (by decide) ?_
  refine v_bipush (v := nI 9) dX8_visitor_2 (by decide) ?_
  refine u_rS3 oX8_in dX8_visitor_4 ml_X8_59 (c_inB (nI a) 9) (by decide) (Nat.le_of_ble_eq_true rfl) (Nat.le_refl _) (Nat.le_refl _) ?_
  refine v_if_neB (tgt := 12) dX8_visitor_7 (by decide) (fun b7 => ?_) (fun b7 => ?_)
  ·
    refine v_iload_n dX8_visitor_12 rfl ?_
    refine v_tableIn (tgt := 60) (off := 47) dX8_visitor_13 (by decide) (by decide) (by decide) (by decide) ?_
    refine v_aload_n dX8_visitor_60 rfl ?_
    refine v_iload_n dX8_visitor_61 rfl ?_
    refine u_rV1 oX8_votesOf dX8_visitor_62 ml_X8_131 (c_votesOf hM a ha) hM.1 (by decide) (Nat.le_of_ble_eq_true rfl) (Nat.le_refl _) (Nat.le_refl _) ?_
    refine v_iret dX8_visitor_65 rfl (Nat.le_refl _) (Nat.le_refl _) ?_
    exact ⟨by unfold visitorI; rw [if_pos hga, if_pos (by decide), nt_nI (by omega), nt_nI (by omega)]; rfl, rfl, rfl⟩
  ·
    exact absurd hga (by rw [b7]; decide)
set_option maxHeartbeats 4000000 in
set_option maxRecDepth 100000 in
theorem c_visitor3 {w : Wd} {o ns tn : Nat} {kp : Int32} {σ tx cm : Nat → Int32} (hM : MW w o ns tn kp σ tx cm) (hW : WS σ) (a : Nat) (ha : a < 10) : Rd mX8_visitor 2 [.ref o, .int (nI a), .int (nI 3)] w (some (.int (visitorI σ (nI a) (nI 3)))) := by
  intro sz
  refine Ev.ofV [some (.ref o), some (.int (nI a)), some (.int (nI 3))] (by decide) (Nat.le_of_ble_eq_true rfl) rfl rfl rfl ?_
  have hga : inB (nI a) 9 = true := by rw [inB_nI (by omega) (by omega)]; simp; omega
  refine v_iload_n dX8_visitor_0 rfl ?_
  refine v_iconst (v := nI 0) dX8_visitor_1 (by decide) ?_
  refine v_bipush (v := nI 9) dX8_visitor_2 (by decide) ?_
  refine u_rS3 oX8_in dX8_visitor_4 ml_X8_59 (c_inB (nI a) 9) (by decide) (Nat.le_of_ble_eq_true rfl) (Nat.le_refl _) (Nat.le_refl _) ?_
  refine v_if_neB (tgt := 12) dX8_visitor_7 (by decide) (fun b7 => ?_) (fun b7 => ?_)
  ·
    refine v_iload_n dX8_visitor_12 rfl ?_
    refine v_tableIn (tgt := 66) (off := 53) dX8_visitor_13 (by decide) (by decide) (by decide) (by decide) ?_
    refine v_aload_n dX8_visitor_66 rfl ?_
    refine v_iload_n dX8_visitor_67 rfl ?_
    refine u_rV1 oX8_standing dX8_visitor_68 ml_X8_134 (c_standing hM (fun p hp => (hW.2.2.2.2.2.1 p hp).1) (nI a)) hM.1 (by decide) (Nat.le_of_ble_eq_true rfl) (Nat.le_refl _) (Nat.le_refl _) ?_
    refine v_iret dX8_visitor_71 rfl (Nat.le_refl _) (Nat.le_refl _) ?_
    exact ⟨by unfold visitorI; rw [if_pos hga, if_pos (by decide), nt_nI (by omega), nt_nI (by omega)]; rfl, rfl, rfl⟩
  ·
    exact absurd hga (by rw [b7]; decide)
set_option maxHeartbeats 4000000 in
set_option maxRecDepth 100000 in
theorem c_visitor_out {w : Wd} {o ns tn : Nat} {kp : Int32} {σ tx cm : Nat → Int32} (hM : MW w o ns tn kp σ tx cm) (a : Nat) (ha : a < 10) (z : Int32) (hz : inB z 3 = false) : Rd mX8_visitor 2 [.ref o, .int (nI a), .int z] w (some (.int (visitorI σ (nI a) z))) := by
  intro sz
  refine Ev.ofV [some (.ref o), some (.int (nI a)), some (.int z)] (by decide) (Nat.le_of_ble_eq_true rfl) rfl rfl rfl ?_
  have hga : inB (nI a) 9 = true := by rw [inB_nI (by omega) (by omega)]; simp; omega
  refine v_iload_n dX8_visitor_0 rfl ?_
  refine v_iconst (v := nI 0) dX8_visitor_1 (by decide) ?_
  refine v_bipush (v := nI 9) dX8_visitor_2 (by decide) ?_
  refine u_rS3 oX8_in dX8_visitor_4 ml_X8_59 (c_inB (nI a) 9) (by decide) (Nat.le_of_ble_eq_true rfl) (Nat.le_refl _) (Nat.le_refl _) ?_
  refine v_if_neB (tgt := 12) dX8_visitor_7 (by decide) (fun b7 => ?_) (fun b7 => ?_)
  ·
    refine v_iload_n dX8_visitor_12 rfl ?_
    refine v_tableOut (tgt := 72) dX8_visitor_13 (inB_out (b := 3) (by omega) hz) (by decide) ?_
    refine v_bipush (v := -2) dX8_visitor_72 (by decide) ?_
    refine v_iret dX8_visitor_74 rfl (Nat.le_refl _) (Nat.le_refl _) ?_
    exact ⟨by unfold visitorI; rw [if_pos hga, if_neg (by rw [hz]; decide)], rfl, rfl⟩
  ·
    exact absurd hga (by rw [b7]; decide)
set_option maxHeartbeats 4000000 in
set_option maxRecDepth 100000 in
theorem c_visitor_no {w : Wd} {o ns tn : Nat} {kp : Int32} {σ tx cm : Nat → Int32} (hM : MW w o ns tn kp σ tx cm) (x z : Int32) (h : inB x 9 = false) : Rd mX8_visitor 2 [.ref o, .int x, .int z] w (some (.int (visitorI σ x z))) := by
  intro sz
  refine Ev.ofV [some (.ref o), some (.int x), some (.int z)] (by decide) (Nat.le_of_ble_eq_true rfl) rfl rfl rfl ?_
  refine v_iload_n dX8_visitor_0 rfl ?_
  refine v_iconst (v := nI 0) dX8_visitor_1 (by decide) ?_
  refine v_bipush (v := nI 9) dX8_visitor_2 (by decide) ?_
  refine u_rS3 oX8_in dX8_visitor_4 ml_X8_59 (c_inB x 9) (by decide) (Nat.le_of_ble_eq_true rfl) (Nat.le_refl _) (Nat.le_refl _) ?_
  refine v_if_neB (tgt := 12) dX8_visitor_7 (by decide) (fun b7 => ?_) (fun b7 => ?_)
  ·
    exact absurd b7 (by rw [h]; decide)
  ·
    refine v_iconst (v := -1) dX8_visitor_10 (by decide) ?_
    refine v_iret dX8_visitor_11 rfl (Nat.le_refl _) (Nat.le_refl _) ?_
    exact ⟨by unfold visitorI; rw [if_neg (by rw [h]; decide)], rfl, rfl⟩
theorem c_visitor {w : Wd} {o ns tn : Nat} {kp : Int32} {σ tx cm : Nat → Int32} (hM : MW w o ns tn kp σ tx cm) (hW : WS σ) (x z : Int32) : Rd mX8_visitor 2 [.ref o, .int x, .int z] w (some (.int (visitorI σ x z))) := by
  by_cases h : inB x 9 = false
  · exact c_visitor_no hM x z h
  · have hx := inB_ub (by omega) (bfalse h)
    rw [hx.1]
    by_cases h2 : inB z 3 = false
    · exact c_visitor_out hM (nt x) hx.2 z h2
    · have hz := inB_ub (by omega) (bfalse h2)
      have hz2 := hz.2
      rw [hz.1]
      generalize nt z = c at hz2 ⊢
      match c, hz2 with
      | 0, _ => exact c_visitor0 hM hW (nt x) hx.2
      | 1, _ => exact c_visitor1 hM hW (nt x) hx.2
      | 2, _ => exact c_visitor2 hM hW (nt x) hx.2
      | 3, _ => exact c_visitor3 hM hW (nt x) hx.2
set_option maxHeartbeats 4000000 in
set_option maxRecDepth 100000 in
theorem c_count0 {w : Wd} {o ns tn : Nat} {kp : Int32} {σ tx cm : Nat → Int32} (hM : MW w o ns tn kp σ tx cm) (hW : WS σ) : Rd mX8_count 3 [.ref o, .int (nI 0)] w (some (.int (countI σ ns tn (nI 0)))) := by
  intro sz
  refine Ev.ofV [some (.ref o), some (.int (nI 0))] (by decide) (Nat.le_of_ble_eq_true rfl) rfl rfl rfl ?_
  refine v_iload_n dX8_count_0 rfl ?_
  refine v_tableIn (tgt := 64) (off := 63) dX8_count_1 (by decide) (by decide) (by decide) (by decide) ?_
  refine v_aload_n dX8_count_64 rfl ?_
  refine u_rV0 oX8_labels dX8_count_65 ml_X8_111 (show Rd mX8_labels 0 _ w (some (.int (nI (lbs σ)))) from c_labels hM (fun p hp => (hW.2.2.2.2.2.1 p hp).1)) hM.1 (by decide) (Nat.le_of_ble_eq_true rfl) (Nat.le_refl _) (Nat.le_refl _) ?_
  refine v_iret dX8_count_68 rfl (Nat.le_refl _) (Nat.le_refl _) ?_
  exact ⟨by unfold countI; rw [if_pos (by decide), nt_nI (by omega)]; rfl, rfl, rfl⟩
set_option maxHeartbeats 4000000 in
set_option maxRecDepth 100000 in
theorem c_count1 {w : Wd} {o ns tn : Nat} {kp : Int32} {σ tx cm : Nat → Int32} (hM : MW w o ns tn kp σ tx cm) (hW : WS σ) : Rd mX8_count 3 [.ref o, .int (nI 1)] w (some (.int (countI σ ns tn (nI 1)))) := by
  intro sz
  refine Ev.ofV [some (.ref o), some (.int (nI 1))] (by decide) (Nat.le_of_ble_eq_true rfl) rfl rfl rfl ?_
  refine v_iload_n dX8_count_0 rfl ?_
  refine v_tableIn (tgt := 69) (off := 68) dX8_count_1 (by decide) (by decide) (by decide) (by decide) ?_
  refine v_aload_n dX8_count_69 rfl ?_
  refine v_iconst (v := -1) dX8_count_70 (by decide) ?_
  refine u_rV1 oX8_rewritesOf dX8_count_71 ml_X8_128 (show Rd mX8_rewritesOf 1 _ w (some (.int (nI (rwV σ (-1))))) from c_rewritesOf hM (-1)) hM.1 (by decide) (Nat.le_of_ble_eq_true rfl) (Nat.le_refl _) (Nat.le_refl _) ?_
  refine v_iret dX8_count_74 rfl (Nat.le_refl _) (Nat.le_refl _) ?_
  exact ⟨by unfold countI; rw [if_pos (by decide), nt_nI (by omega)]; rfl, rfl, rfl⟩
set_option maxHeartbeats 4000000 in
set_option maxRecDepth 100000 in
theorem c_count2 {w : Wd} {o ns tn : Nat} {kp : Int32} {σ tx cm : Nat → Int32} (hM : MW w o ns tn kp σ tx cm) (hW : WS σ) : Rd mX8_count 3 [.ref o, .int (nI 2)] w (some (.int (countI σ ns tn (nI 2)))) := by
  intro sz
  refine Ev.ofV [some (.ref o), some (.int (nI 2))] (by decide) (Nat.le_of_ble_eq_true rfl) rfl rfl rfl ?_
  refine v_iload_n dX8_count_0 rfl ?_
  refine v_tableIn (tgt := 75) (off := 74) dX8_count_1 (by decide) (by decide) (by decide) (by decide) ?_
  refine v_aload_n dX8_count_75 rfl ?_
  refine v_get 0 dX8_count_76 FTX8 (by decide) rfl fl_X8_7 hM.1 rfl ?_
  refine v_bipush (v := nI 18) dX8_count_79 (by decide) ?_
  refine v_iald _ dX8_count_81 hM.2.1 rfl (by omega) (by decide) ?_
  refine v_iret dX8_count_82 rfl (Nat.le_refl _) (Nat.le_refl _) ?_
  exact ⟨by unfold countI; rw [if_pos (by decide), nt_nI (by omega)]; rfl, rfl, rfl⟩
set_option maxHeartbeats 4000000 in
set_option maxRecDepth 100000 in
theorem c_count3 {w : Wd} {o ns tn : Nat} {kp : Int32} {σ tx cm : Nat → Int32} (hM : MW w o ns tn kp σ tx cm) (hW : WS σ) : Rd mX8_count 3 [.ref o, .int (nI 3)] w (some (.int (countI σ ns tn (nI 3)))) := by
  intro sz
  refine Ev.ofV [some (.ref o), some (.int (nI 3))] (by decide) (Nat.le_of_ble_eq_true rfl) rfl rfl rfl ?_
  refine v_iload_n dX8_count_0 rfl ?_
  refine v_tableIn (tgt := 83) (off := 82) dX8_count_1 (by decide) (by decide) (by decide) (by decide) ?_
  refine v_aload_n dX8_count_83 rfl ?_
  refine u_rV0 oX8_allVotes dX8_count_84 ml_X8_141 (c_allVotes hM) hM.1 (by decide) (Nat.le_of_ble_eq_true rfl) (Nat.le_refl _) (Nat.le_refl _) ?_
  refine v_iret dX8_count_87 rfl (Nat.le_refl _) (Nat.le_refl _) ?_
  exact ⟨by unfold countI; rw [if_pos (by decide), nt_nI (by omega)]; rfl, rfl, rfl⟩
set_option maxHeartbeats 4000000 in
set_option maxRecDepth 100000 in
theorem c_count4 {w : Wd} {o ns tn : Nat} {kp : Int32} {σ tx cm : Nat → Int32} (hM : MW w o ns tn kp σ tx cm) (hW : WS σ) : Rd mX8_count 3 [.ref o, .int (nI 4)] w (some (.int (countI σ ns tn (nI 4)))) := by
  intro sz
  refine Ev.ofV [some (.ref o), some (.int (nI 4))] (by decide) (Nat.le_of_ble_eq_true rfl) rfl rfl rfl ?_
  refine v_iload_n dX8_count_0 rfl ?_
  refine v_tableIn (tgt := 88) (off := 87) dX8_count_1 (by decide) (by decide) (by decide) (by decide) ?_
  refine v_aload_n dX8_count_88 rfl ?_
  refine v_get 0 dX8_count_89 FTX8 (by decide) rfl fl_X8_7 hM.1 rfl ?_
  refine v_bipush (v := nI 17) dX8_count_92 (by decide) ?_
  refine v_iald _ dX8_count_94 hM.2.1 rfl (by omega) (by decide) ?_
  refine v_iret dX8_count_95 rfl (Nat.le_refl _) (Nat.le_refl _) ?_
  exact ⟨by unfold countI; rw [if_pos (by decide), nt_nI (by omega)]; rfl, rfl, rfl⟩
set_option maxHeartbeats 4000000 in
set_option maxRecDepth 100000 in
theorem c_count5 {w : Wd} {o ns tn : Nat} {kp : Int32} {σ tx cm : Nat → Int32} (hM : MW w o ns tn kp σ tx cm) (hW : WS σ) : Rd mX8_count 3 [.ref o, .int (nI 5)] w (some (.int (countI σ ns tn (nI 5)))) := by
  intro sz
  refine Ev.ofV [some (.ref o), some (.int (nI 5))] (by decide) (Nat.le_of_ble_eq_true rfl) rfl rfl rfl ?_
  refine v_iload_n dX8_count_0 rfl ?_
  refine v_tableIn (tgt := 96) (off := 95) dX8_count_1 (by decide) (by decide) (by decide) (by decide) ?_
  refine v_aload_n dX8_count_96 rfl ?_
  refine v_get 0 dX8_count_97 FTX8 (by decide) rfl fl_X8_7 hM.1 rfl ?_
  refine v_bipush (v := nI 16) dX8_count_100 (by decide) ?_
  refine v_iald _ dX8_count_102 hM.2.1 rfl (by omega) (by decide) ?_
  refine v_iret dX8_count_103 rfl (Nat.le_refl _) (Nat.le_refl _) ?_
  exact ⟨by unfold countI; rw [if_pos (by decide), nt_nI (by omega)]; rfl, rfl, rfl⟩
set_option maxHeartbeats 4000000 in
set_option maxRecDepth 100000 in
theorem c_count6 {w : Wd} {o ns tn : Nat} {kp : Int32} {σ tx cm : Nat → Int32} (hM : MW w o ns tn kp σ tx cm) (hW : WS σ) : Rd mX8_count 3 [.ref o, .int (nI 6)] w (some (.int (countI σ ns tn (nI 6)))) := by
  intro sz
  refine Ev.ofV [some (.ref o), some (.int (nI 6))] (by decide) (Nat.le_of_ble_eq_true rfl) rfl rfl rfl ?_
  refine v_iload_n dX8_count_0 rfl ?_
  refine v_tableIn (tgt := 104) (off := 103) dX8_count_1 (by decide) (by decide) (by decide) (by decide) ?_
  refine v_aload_n dX8_count_104 rfl ?_
  refine v_iconst (v := nI 0) dX8_count_105 (by decide) ?_
  refine v_iconst (v := nI 1) dX8_count_106 (by decide) ?_
  refine u_rV2 oX8_labelsOf dX8_count_107 ml_X8_125 (c_labelsOf hM (fun p hp => (hW.2.2.2.2.2.1 p hp).1) 0 1 (by omega) (by omega)) hM.1 (by decide) (Nat.le_of_ble_eq_true rfl) (Nat.le_refl _) (Nat.le_refl _) ?_
  refine v_aload_n dX8_count_110 rfl ?_
  refine v_iconst (v := nI 1) dX8_count_111 (by decide) ?_
  refine v_iconst (v := nI 1) dX8_count_112 (by decide) ?_
  refine u_rV2 oX8_labelsOf dX8_count_113 ml_X8_125 (c_labelsOf hM (fun p hp => (hW.2.2.2.2.2.1 p hp).1) 1 1 (by omega) (by omega)) hM.1 (by decide) (Nat.le_of_ble_eq_true rfl) (Nat.le_refl _) (Nat.le_refl _) ?_
  refine v_iaddN dX8_count_116 ?_
  refine v_aload_n dX8_count_117 rfl ?_
  refine v_iconst (v := nI 2) dX8_count_118 (by decide) ?_
  refine v_iconst (v := nI 1) dX8_count_119 (by decide) ?_
  refine u_rV2 oX8_labelsOf dX8_count_120 ml_X8_125 (c_labelsOf hM (fun p hp => (hW.2.2.2.2.2.1 p hp).1) 2 1 (by omega) (by omega)) hM.1 (by decide) (Nat.le_of_ble_eq_true rfl) (Nat.le_refl _) (Nat.le_refl _) ?_
  refine v_iaddN dX8_count_123 ?_
  refine v_aload_n dX8_count_124 rfl ?_
  refine v_iconst (v := nI 3) dX8_count_125 (by decide) ?_
  refine v_iconst (v := nI 1) dX8_count_126 (by decide) ?_
  refine u_rV2 oX8_labelsOf dX8_count_127 ml_X8_125 (c_labelsOf hM (fun p hp => (hW.2.2.2.2.2.1 p hp).1) 3 1 (by omega) (by omega)) hM.1 (by decide) (Nat.le_of_ble_eq_true rfl) (Nat.le_refl _) (Nat.le_refl _) ?_
  refine v_iaddN dX8_count_130 ?_
  refine v_iret dX8_count_131 rfl (Nat.le_refl _) (Nat.le_refl _) ?_
  exact ⟨by unfold countI; rw [if_pos (by decide), nt_nI (by omega)]; rfl, rfl, rfl⟩
set_option maxHeartbeats 4000000 in
set_option maxRecDepth 100000 in
theorem c_count7 {w : Wd} {o ns tn : Nat} {kp : Int32} {σ tx cm : Nat → Int32} (hM : MW w o ns tn kp σ tx cm) (hW : WS σ) : Rd mX8_count 3 [.ref o, .int (nI 7)] w (some (.int (countI σ ns tn (nI 7)))) := by
  intro sz
  refine Ev.ofV [some (.ref o), some (.int (nI 7))] (by decide) (Nat.le_of_ble_eq_true rfl) rfl rfl rfl ?_
  refine v_iload_n dX8_count_0 rfl ?_
  refine v_tableIn (tgt := 132) (off := 131) dX8_count_1 (by decide) (by decide) (by decide) (by decide) ?_
  refine v_aload_n dX8_count_132 rfl ?_
  refine v_get 0 dX8_count_133 FTX8 (by decide) rfl fl_X8_7 hM.1 rfl ?_
  refine v_bipush (v := nI 19) dX8_count_136 (by decide) ?_
  refine v_iald _ dX8_count_138 hM.2.1 rfl (by omega) (by decide) ?_
  refine v_iret dX8_count_139 rfl (Nat.le_refl _) (Nat.le_refl _) ?_
  exact ⟨by unfold countI; rw [if_pos (by decide), nt_nI (by omega)]; rfl, rfl, rfl⟩
set_option maxHeartbeats 4000000 in
set_option maxRecDepth 100000 in
theorem c_count8 {w : Wd} {o ns tn : Nat} {kp : Int32} {σ tx cm : Nat → Int32} (hM : MW w o ns tn kp σ tx cm) (hW : WS σ) : Rd mX8_count 3 [.ref o, .int (nI 8)] w (some (.int (countI σ ns tn (nI 8)))) := by
  intro sz
  refine Ev.ofV [some (.ref o), some (.int (nI 8))] (by decide) (Nat.le_of_ble_eq_true rfl) rfl rfl rfl ?_
  refine v_iload_n dX8_count_0 rfl ?_
  refine v_tableIn (tgt := 140) (off := 139) dX8_count_1 (by decide) (by decide) (by decide) (by decide) ?_
  refine v_aload_n dX8_count_140 rfl ?_
  refine v_get 0 dX8_count_141 FTX8 (by decide) rfl fl_X8_7 hM.1 rfl ?_
  refine v_bipush (v := nI 20) dX8_count_144 (by decide) ?_
  refine v_iald _ dX8_count_146 hM.2.1 rfl (by omega) (by decide) ?_
  refine v_iret dX8_count_147 rfl (Nat.le_refl _) (Nat.le_refl _) ?_
  exact ⟨by unfold countI; rw [if_pos (by decide), nt_nI (by omega)]; rfl, rfl, rfl⟩
set_option maxHeartbeats 4000000 in
set_option maxRecDepth 100000 in
theorem c_count9 {w : Wd} {o ns tn : Nat} {kp : Int32} {σ tx cm : Nat → Int32} (hM : MW w o ns tn kp σ tx cm) (hW : WS σ) : Rd mX8_count 3 [.ref o, .int (nI 9)] w (some (.int (countI σ ns tn (nI 9)))) := by
  intro sz
  refine Ev.ofV [some (.ref o), some (.int (nI 9))] (by decide) (Nat.le_of_ble_eq_true rfl) rfl rfl rfl ?_
  refine v_iload_n dX8_count_0 rfl ?_
  refine v_tableIn (tgt := 148) (off := 147) dX8_count_1 (by decide) (by decide) (by decide) (by decide) ?_
  refine v_aload_n dX8_count_148 rfl ?_
  refine v_get 0 dX8_count_149 FTX8 (by decide) rfl fl_X8_7 hM.1 rfl ?_
  refine v_bipush (v := nI 21) dX8_count_152 (by decide) ?_
  refine v_iald _ dX8_count_154 hM.2.1 rfl (by omega) (by decide) ?_
  refine v_iret dX8_count_155 rfl (Nat.le_refl _) (Nat.le_refl _) ?_
  exact ⟨by unfold countI; rw [if_pos (by decide), nt_nI (by omega)]; rfl, rfl, rfl⟩
set_option maxHeartbeats 4000000 in
set_option maxRecDepth 100000 in
theorem c_count10 {w : Wd} {o ns tn : Nat} {kp : Int32} {σ tx cm : Nat → Int32} (hM : MW w o ns tn kp σ tx cm) (hW : WS σ) : Rd mX8_count 3 [.ref o, .int (nI 10)] w (some (.int (countI σ ns tn (nI 10)))) := by
  intro sz
  refine Ev.ofV [some (.ref o), some (.int (nI 10))] (by decide) (Nat.le_of_ble_eq_true rfl) rfl rfl rfl ?_
  refine v_iload_n dX8_count_0 rfl ?_
  refine v_tableIn (tgt := 156) (off := 155) dX8_count_1 (by decide) (by decide) (by decide) (by decide) ?_
  refine v_aload_n dX8_count_156 rfl ?_
  refine v_get 1 dX8_count_157 FTX8 (by decide) rfl fl_X8_20 hM.1 rfl ?_
  refine v_iret dX8_count_160 rfl (Nat.le_refl _) (Nat.le_refl _) ?_
  exact ⟨by unfold countI; rw [if_pos (by decide), nt_nI (by omega)]; rfl, rfl, rfl⟩
set_option maxHeartbeats 4000000 in
set_option maxRecDepth 100000 in
theorem c_count11 {w : Wd} {o ns tn : Nat} {kp : Int32} {σ tx cm : Nat → Int32} (hM : MW w o ns tn kp σ tx cm) (hW : WS σ) : Rd mX8_count 3 [.ref o, .int (nI 11)] w (some (.int (countI σ ns tn (nI 11)))) := by
  intro sz
  refine Ev.ofV [some (.ref o), some (.int (nI 11))] (by decide) (Nat.le_of_ble_eq_true rfl) rfl rfl rfl ?_
  refine v_iload_n dX8_count_0 rfl ?_
  refine v_tableIn (tgt := 161) (off := 160) dX8_count_1 (by decide) (by decide) (by decide) (by decide) ?_
  refine v_aload_n dX8_count_161 rfl ?_
  refine v_get 4 dX8_count_162 FTX8 (by decide) rfl fl_X8_56 hM.1 rfl ?_
  refine v_iret dX8_count_165 rfl (Nat.le_refl _) (Nat.le_refl _) ?_
  exact ⟨by unfold countI; rw [if_pos (by decide), nt_nI (by omega)]; rfl, rfl, rfl⟩
set_option maxHeartbeats 4000000 in
set_option maxRecDepth 100000 in
theorem c_count_out {w : Wd} {o ns tn : Nat} {kp : Int32} {σ tx cm : Nat → Int32} (hM : MW w o ns tn kp σ tx cm) (z : Int32) (hz : inB z 11 = false) : Rd mX8_count 3 [.ref o, .int z] w (some (.int (countI σ ns tn z))) := by
  intro sz
  refine Ev.ofV [some (.ref o), some (.int z)] (by decide) (Nat.le_of_ble_eq_true rfl) rfl rfl rfl ?_
  refine v_iload_n dX8_count_0 rfl ?_
  refine v_tableOut (tgt := 166) dX8_count_1 (inB_out (b := 11) (by omega) hz) (by decide) ?_
  refine v_bipush (v := -2) dX8_count_166 (by decide) ?_
  refine v_iret dX8_count_168 rfl (Nat.le_refl _) (Nat.le_refl _) ?_
  exact ⟨by unfold countI; rw [if_neg (by rw [hz]; decide)], rfl, rfl⟩
theorem c_count {w : Wd} {o ns tn : Nat} {kp : Int32} {σ tx cm : Nat → Int32} (hM : MW w o ns tn kp σ tx cm) (hW : WS σ) (z : Int32) : Rd mX8_count 3 [.ref o, .int z] w (some (.int (countI σ ns tn z))) := by
  by_cases h2 : inB z 11 = false
  · exact c_count_out hM z h2
  · have hz := inB_ub (by omega) (bfalse h2)
    have hz2 := hz.2
    rw [hz.1]
    generalize nt z = c at hz2 ⊢
    match c, hz2 with
    | 0, _ => exact c_count0 hM hW
    | 1, _ => exact c_count1 hM hW
    | 2, _ => exact c_count2 hM hW
    | 3, _ => exact c_count3 hM hW
    | 4, _ => exact c_count4 hM hW
    | 5, _ => exact c_count5 hM hW
    | 6, _ => exact c_count6 hM hW
    | 7, _ => exact c_count7 hM hW
    | 8, _ => exact c_count8 hM hW
    | 9, _ => exact c_count9 hM hW
    | 10, _ => exact c_count10 hM hW
    | 11, _ => exact c_count11 hM hW
