/-! ===== the judgement of the law's body: V, over the law's room and end, and with the script ===== -/
def CL (p : Program) (s : State) (m : MethodId) (meth : Method) (c : Code) (b N : Nat) (xs : Nat → Int32) (lo : Nat) (D : va_G) (cy : Nat → ClassId) : Prop :=
  p.tables.exec = Jvm.exec ∧ c.code = code ∧ meth.sig.returnType = ret ∧ c.maxLocals = 4 ∧ s.vm.findClass RL = some m.cls ∧ (∀ w ∈ lw_tb, w.before #[Value.ref b] s = true) ∧ meth.locks = false ∧ KK D cy s ∧ lo = s.heap.size ∧ va_X b N xs s s.heap ∧ b < s.heap.size
def VL (b N : Nat) (xs : Nat → Int32) (w : Wd) (sz cells slots : Nat) (L : List (Option Value)) (stk : List Value) (pc : Nat) : Prop :=
  ∀ (p : Program) (l : Launch) (e : Env) (s : State) (m : MethodId) (below : List Frame) (meth : Method) (c : Code) (lo : Nat) (D : va_G) (cy : Nat → ClassId) (H : Heap) (locs : List Loc) (ls : Array Slot),
    CL p s m meth c b N xs lo D cy → hW D cy lo w H → H.size = sz → va_S (fun q => lo ≤ q) s.heap H locs → lvs ls 4 L →
    W p l e room_1 s m #[Value.ref b] below meth c H locs cells slots (lw_Z below #[Value.ref b] s) (F0 m pc ls stk)
section VL1
variable {b N : Nat} {xs : Nat → Int32} {w : Wd} {sz cells slots : Nat} {L : List (Option Value)} {stk : List Value} {pc : Nat}
theorem l_iconst {n : Int} {v : Int32} (hd : decode code pc = .ok (.iconst n, 1)) (hv : Int32.ofInt n = v) (k : VL b N xs w sz cells slots L (.int v :: stk) (pc + 1)) : VL b N xs w sz cells slots L (stk) (pc) := by
  intro p l e s m below meth c lo D cy H locs ls C hw hz hS hl
  exact lv_iconst C.1 C.2.1 hd hv (k p l e s m below meth c lo D cy H locs ls C hw hz hS hl)
theorem l_bipush {n : Int} {v : Int32} (hd : decode code pc = .ok (.bipush n, 2)) (hv : (Int8.ofInt n).toInt32 = v) (k : VL b N xs w sz cells slots L (.int v :: stk) (pc + 2)) : VL b N xs w sz cells slots L (stk) (pc) := by
  intro p l e s m below meth c lo D cy H locs ls C hw hz hS hl
  exact lv_bipush C.1 C.2.1 hd hv (k p l e s m below meth c lo D cy H locs ls C hw hz hS hl)
theorem l_istore_n {i : Fin 4} {x : Int32} {L' : List (Option Value)} (hd : decode code pc = .ok (.istore_n i, 1)) (hi : (i : Nat) < 4) (hL : st L i (.int x) = L') (k : VL b N xs w sz cells slots L' (stk) (pc + 1)) : VL b N xs w sz cells slots L (.int x :: stk) (pc) := by
  intro p l e s m below meth c lo D cy H locs ls C hw hz hS hl
  refine lv_istore_n C.1 C.2.1 hd rfl hl.1 hi rfl (fun ls' h' => ?_)
  exact k p l e s m below meth c lo D cy H locs ls' C hw hz hS (by rw [← hL]; exact hl.st rfl h')
theorem l_astore_n {i : Fin 4} {x : Nat} {L' : List (Option Value)} (hd : decode code pc = .ok (.astore_n i, 1)) (hi : (i : Nat) < 4) (hL : st L i (.ref x) = L') (k : VL b N xs w sz cells slots L' (stk) (pc + 1)) : VL b N xs w sz cells slots L (.ref x :: stk) (pc) := by
  intro p l e s m below meth c lo D cy H locs ls C hw hz hS hl
  refine lv_astore_n C.1 C.2.1 hd rfl hl.1 hi rfl (fun ls' h' => ?_)
  exact k p l e s m below meth c lo D cy H locs ls' C hw hz hS (by rw [← hL]; exact hl.st rfl h')
theorem l_iload_n {i : Fin 4} {x : Int32} (hd : decode code pc = .ok (.iload_n i, 1)) (hl0 : lk L i = some (.int x)) (k : VL b N xs w sz cells slots L (.int x :: stk) (pc + 1)) : VL b N xs w sz cells slots L (stk) (pc) := by
  intro p l e s m below meth c lo D cy H locs ls C hw hz hS hl
  exact lv_iload_n C.1 C.2.1 hd rfl (hl.at hl0) (k p l e s m below meth c lo D cy H locs ls C hw hz hS hl)
theorem l_aload_n {i : Fin 4} {x : Nat} (hd : decode code pc = .ok (.aload_n i, 1)) (hl0 : lk L i = some (.ref x)) (k : VL b N xs w sz cells slots L (.ref x :: stk) (pc + 1)) : VL b N xs w sz cells slots L (stk) (pc) := by
  intro p l e s m below meth c lo D cy H locs ls C hw hz hS hl
  exact lv_aload_n C.1 C.2.1 hd rfl (hl.at hl0) (k p l e s m below meth c lo D cy H locs ls C hw hz hS hl)
theorem l_dup {va : Value} (hd : decode code pc = .ok (.dup, 1)) (hva : va.category = 1) (k : VL b N xs w sz cells slots L (va :: va :: stk) (pc + 1)) : VL b N xs w sz cells slots L (va :: stk) (pc) := by
  intro p l e s m below meth c lo D cy H locs ls C hw hz hS hl
  exact lv_dup C.1 C.2.1 hd hva (k p l e s m below meth c lo D cy H locs ls C hw hz hS hl)
theorem l_iadd {x y : Int32} (hd : decode code pc = .ok (.iadd, 1))  (k : VL b N xs w sz cells slots L (.int (x + y) :: stk) (pc + 1)) : VL b N xs w sz cells slots L (.int y :: .int x :: stk) (pc) := by
  intro p l e s m below meth c lo D cy H locs ls C hw hz hS hl
  exact lv_iadd C.1 C.2.1 hd  (k p l e s m below meth c lo D cy H locs ls C hw hz hS hl)
theorem l_isub {x y : Int32} (hd : decode code pc = .ok (.isub, 1))  (k : VL b N xs w sz cells slots L (.int (x - y) :: stk) (pc + 1)) : VL b N xs w sz cells slots L (.int y :: .int x :: stk) (pc) := by
  intro p l e s m below meth c lo D cy H locs ls C hw hz hS hl
  exact lv_isub C.1 C.2.1 hd  (k p l e s m below meth c lo D cy H locs ls C hw hz hS hl)
theorem l_iand {x y : Int32} (hd : decode code pc = .ok (.iand, 1))  (k : VL b N xs w sz cells slots L (.int (x &&& y) :: stk) (pc + 1)) : VL b N xs w sz cells slots L (.int y :: .int x :: stk) (pc) := by
  intro p l e s m below meth c lo D cy H locs ls C hw hz hS hl
  exact lv_iand C.1 C.2.1 hd  (k p l e s m below meth c lo D cy H locs ls C hw hz hS hl)
theorem l_i2c {x v : Int32} (hd : decode code pc = .ok (.i2c, 1)) (hv : (x.toUInt32 % 65536).toInt32 = v) (k : VL b N xs w sz cells slots L (.int v :: stk) (pc + 1)) : VL b N xs w sz cells slots L (.int x :: stk) (pc) := by
  intro p l e s m below meth c lo D cy H locs ls C hw hz hS hl
  exact lv_i2c C.1 C.2.1 hd hv (k p l e s m below meth c lo D cy H locs ls C hw hz hS hl)
theorem l_goto {off : Int} {tgt : Nat} (hd : decode code pc = .ok (.goto off, 3)) (ht : (pc : Int) + off = (tgt : Int)) (k : VL b N xs w sz cells slots L (stk) (tgt)) : VL b N xs w sz cells slots L (stk) (pc) := by
  intro p l e s m below meth c lo D cy H locs ls C hw hz hS hl
  exact lv_goto C.1 C.2.1 hd ht (k p l e s m below meth c lo D cy H locs ls C hw hz hS hl)
theorem l_icmp_gt {x y : Int32} {off : Int} {tgt : Nat} (hd : decode code pc = .ok (.if_icmp .gt off, 3)) (ht : (pc : Int) + off = (tgt : Int)) (kt : y < x → VL b N xs w sz cells slots L (stk) (tgt)) (kf : ¬ y < x → VL b N xs w sz cells slots L (stk) (pc + 3)) : VL b N xs w sz cells slots L (.int y :: .int x :: stk) (pc) := by
  intro p l e s m below meth c lo D cy H locs ls C hw hz hS hl
  exact lv_icmp_gt C.1 C.2.1 hd ht (fun z => kt z p l e s m below meth c lo D cy H locs ls C hw hz hS hl) (fun z => kf z p l e s m below meth c lo D cy H locs ls C hw hz hS hl)
theorem l_icmp_eq {x y : Int32} {off : Int} {tgt : Nat} (hd : decode code pc = .ok (.if_icmp .eq off, 3)) (ht : (pc : Int) + off = (tgt : Int)) (kt : x = y → VL b N xs w sz cells slots L (stk) (tgt)) (kf : ¬ x = y → VL b N xs w sz cells slots L (stk) (pc + 3)) : VL b N xs w sz cells slots L (.int y :: .int x :: stk) (pc) := by
  intro p l e s m below meth c lo D cy H locs ls C hw hz hS hl
  exact lv_icmp_eq C.1 C.2.1 hd ht (fun z => kt z p l e s m below meth c lo D cy H locs ls C hw hz hS hl) (fun z => kf z p l e s m below meth c lo D cy H locs ls C hw hz hS hl)
theorem l_if_eq {x : Int32} {off : Int} {tgt : Nat} (hd : decode code pc = .ok (.ifCond .eq off, 3)) (ht : (pc : Int) + off = (tgt : Int)) (kt : x = 0 → VL b N xs w sz cells slots L (stk) (tgt)) (kf : ¬ x = 0 → VL b N xs w sz cells slots L (stk) (pc + 3)) : VL b N xs w sz cells slots L (.int x :: stk) (pc) := by
  intro p l e s m below meth c lo D cy H locs ls C hw hz hS hl
  exact lv_if_eq C.1 C.2.1 hd ht (fun z => kt z p l e s m below meth c lo D cy H locs ls C hw hz hS hl) (fun z => kf z p l e s m below meth c lo D cy H locs ls C hw hz hS hl)
theorem l_iinc {i : Nat} {n : Int} {x y : Int32} {L' : List (Option Value)} (hd : decode code pc = .ok (.iinc i n, 3)) (hi : i < 4) (hl0 : lk L i = some (.int x)) (hy : x + Int32.ofInt n = y) (hL : st L i (.int y) = L') (k : VL b N xs w sz cells slots L' (stk) (pc + 3)) : VL b N xs w sz cells slots L (stk) (pc) := by
  intro p l e s m below meth c lo D cy H locs ls C hw hz hS hl
  obtain ⟨j, hj⟩ := hl.mem hl0
  refine lv_iinc C.1 C.2.1 hd hl.1 hj hy hi rfl (fun ls' h' => ?_)
  exact k p l e s m below meth c lo D cy H locs ls' C hw hz hS (by rw [← hL]; exact hl.st rfl h')
theorem l_tableIn {dflt lo hi : Int} {offs : Array Int} {len : Nat} {x : Int32} {off : Int} {tgt : Nat} (hd : decode code pc = .ok (.tableswitch dflt lo hi offs, len)) (h1 : ¬ x.toInt < lo) (h2 : ¬ hi < x.toInt) (ho : offs[(x.toInt - lo).toNat]? = some off) (ht : (pc : Int) + off = (tgt : Int)) (k : VL b N xs w sz cells slots L (stk) (tgt)) : VL b N xs w sz cells slots L (.int x :: stk) (pc) := by
  intro p l e s m below meth c lo' D cy H locs ls C hw hz hS hl
  exact lv_tableIn C.1 C.2.1 hd h1 h2 ho ht (k p l e s m below meth c lo' D cy H locs ls C hw hz hS hl)
theorem l_tableOut {dflt lo hi : Int} {offs : Array Int} {len : Nat} {x : Int32} {tgt : Nat} (hd : decode code pc = .ok (.tableswitch dflt lo hi offs, len)) (h : x.toInt < lo ∨ hi < x.toInt) (ht : (pc : Int) + dflt = (tgt : Int)) (k : VL b N xs w sz cells slots L (stk) (tgt)) : VL b N xs w sz cells slots L (.int x :: stk) (pc) := by
  intro p l e s m below meth c lo' D cy H locs ls C hw hz hS hl
  exact lv_tableOut C.1 C.2.1 hd h ht (k p l e s m below meth c lo' D cy H locs ls C hw hz hS hl)
theorem l_eqs {stk' : List Value} (h : stk' = stk) (k : VL b N xs w sz cells slots L stk' pc) : VL b N xs w sz cells slots L stk pc := h ▸ k
theorem l_eqL {L' : List (Option Value)} (h : L' = L) (k : VL b N xs w sz cells slots L' stk pc) : VL b N xs w sz cells slots L stk pc := h ▸ k
theorem l_eqw {w' : Wd} (h : w' = w) (k : VL b N xs w' sz cells slots L stk pc) : VL b N xs w sz cells slots L stk pc := h ▸ k
theorem l_sld {i : Int32} (j : Nat) (hd : decode code pc = .ok (.iaload, 1)) (hj : i = nI j) (hjn : j < N) (hN : N ≤ 100000) (k : VL b N xs w sz cells slots L (.int (xs j) :: stk) (pc + 1)) : VL b N xs w sz cells slots L (.int i :: .ref b :: stk) (pc) := by
  intro p l e s m below meth c lo D cy H locs ls C hw hz hS hl
  subst hj
  have hlo := C.2.2.2.2.2.2.2.2.1
  refine va_sld C.1 C.2.1 C.2.2.2.2.2.2.2.2.2.1 C.2.2.2.2.2.2.2.2.2.2 (by rw [hlo]; exact Nat.not_le.mpr C.2.2.2.2.2.2.2.2.2.2) hS (inR hjn (by omega)) hd ?_
  rw [nI_clamp (by omega)]
  exact k p l e s m below meth c lo D cy H locs ls C hw hz hS hl
theorem l_slen (hd : decode code pc = .ok (.arraylength, 1)) (k : VL b N xs w sz cells slots L (.int (nI N) :: stk) (pc + 1)) : VL b N xs w sz cells slots L (.ref b :: stk) (pc) := by
  intro p l e s m below meth c lo D cy H locs ls C hw hz hS hl
  have hlo := C.2.2.2.2.2.2.2.2.1
  exact va_slen C.1 C.2.1 C.2.2.2.2.2.2.2.2.2.1 C.2.2.2.2.2.2.2.2.2.2 (by rw [hlo]; exact Nat.not_le.mpr C.2.2.2.2.2.2.2.2.2.2) hS hd (k p l e s m below meth c lo D cy H locs ls C hw hz hS hl)
theorem l_ret (hd : decode code pc = .ok (.ireturn, 1)) (hc : cells ≤ 600000) (hs : slots ≤ 7302250) : VL b N xs w sz cells slots L [.int 1] (pc) := by
  intro p l e s m below meth c lo D cy H locs ls C hw hz hS hl
  have hlo := C.2.2.2.2.2.2.2.2.1
  refine W.widen hc hs (va_forget (fun q hq => by have := hS.2.2 q hq; omega) ?_)
  exact lw_ret C.1 C.2.1 C.2.2.1 C.2.2.2.2.2.2.1 hd
theorem l_new {idx ci : Nat} {C0 : String} {T : u_T} {N0 : Nat} {ty : Nat → FieldType} {fs : List Value} (hd : decode code pc = .ok (.new idx, 3)) (hF : FT ci C0 T N0 ty) (hcl : Cond.classLink RL idx C0 ∈ lw_tb) (hinst : Cond.instantiable C0 N0 ∈ lw_tb) (hini : Cond.initialized C0 ∈ lw_tb) (hfs : ∀ j, j < N0 → defaultValue (ty j) = vp_V fs j) (hc : cells + 1 ≤ 600000) (hs : slots + N0 ≤ 7302250) (kk : VL b N xs (wu w sz (ob ci fs)) (sz + 1) (cells + 1) (slots + N0) L (.ref sz :: stk) (pc + 3)) : VL b N xs (w) (sz) (cells) (slots) L (stk) (pc) := by
  intro p l e s m below meth c lo D cy H locs ls C hw hz hS hl
  subst hz
  have hts := C.2.2.2.2.2.1
  have hK := C.2.2.2.2.2.2.2.1.1
  have hKn := hK.1 ci _ hF.1
  have hlo : lo ≤ H.size := by
    rw [C.2.2.2.2.2.2.2.2.1]
    exact hS.1
  refine W.newcK C.1 C.2.1 C.2.2.2.2.1 (hts _ hcl) (hts _ hinst) (hts _ hini) rfl hd hc hs hKn.2.1 rfl fun H1 kC hkC e1 z1 o1 => ?_
  exact kk p l e s m below meth c lo D cy H1 locs ls C (hw.pu hlo ⟨_, hF.1, (u_born ty hts hF.2.1 hKn hkC e1 hF.2.2.1).to hfs⟩ o1) z1 (newS hS z1 o1) hl
theorem goodTbL {mi' : MI} (h : miW mi' ∈ lw_tb) : GoodIn lw_tb (miWs mi') := by
  intro w hw
  have h1 : w ∈ lw_tb := by
    rcases List.mem_cons.mp hw with e | e
    · rw [e]; exact h
    · exact e
  exact ⟨h1, good_of_word (tb_in h1).2⟩
variable {mi' : MI} {d' idx ci mc' ms' : Nat} {Po' : Option Value → Wd → Nat → Prop}
theorem l_ran {p : Program} {l : Launch} {e : Env} {s : State} {m : MethodId} {below : List Frame} {meth : Method} {c : Code} {lo : Nat} {D : va_G} {cy : Nat → ClassId} {H : Heap} {locs : List Loc} {ls : Array Slot} {st0 : List Value} {av : Array Value}
    (hr : va_Run p l e room_1 s m #[Value.ref b] below meth c H locs cells slots mc' ms' (F0 m pc ls st0) stk (Qd Po' D cy lo av) (fun q => lo ≤ q)) (C : CL p s m meth c b N xs lo D cy) (hS : va_S (fun q => lo ≤ q) s.heap H locs) (hl : lvs ls 4 L)
    (k : ∀ r w' z, Po' r w' z → VL b N xs w' z (cells + mc') (slots + ms') L (r.toList ++ stk) (pc + 3)) : W p l e room_1 s m #[Value.ref b] below meth c H locs cells slots (lw_Z below #[Value.ref b] s) (F0 m pc ls st0) := by
  intro T hT X
  obtain ⟨v, st₀, t, T', L1, h0, X', hL, e1, e2, ⟨r, w', hv, hw', hp, hz, hk⟩, step⟩ := hr T hT X
  cases hv
  rw [h0] at hz hk
  obtain ⟨t2, a1, b1⟩ := k _ w' _ hp p l e s m below meth c lo D cy T'.heap (locs ++ L1) ls C (by rw [e1]; exact hw') (by rw [e1]) ⟨Nat.le_trans hS.1 (by rw [e1]; exact hz), fun q h1 h2 => by rw [e1, hk q (Nat.lt_of_lt_of_le h1 hS.1) h2]; exact hS.2.1 q h1 h2, fun q hq => by
      rcases List.mem_append.mp hq with h | h
      · exact hS.2.2 q h
      · exact hL q h⟩ hl T' rfl X'
  exact ⟨t2, step t2 a1, b1⟩
theorem pcSL {av : List Value} {lo : Nat} {D : va_G} {cy : Nat → ClassId} {s : State} {H : Heap} {locs : List Loc} {p : Program} {m : MethodId} {meth : Method} {c : Code} (C : CL p s m meth c b N xs lo D cy) (hw : hW D cy lo w H) (hz : H.size = sz) (hS : va_S (fun q => lo ≤ q) s.heap H locs) : ∀ U : State, U.heap = H → s.WarmedH U.vm → va_Pc av (fun U => U.heap.size = sz ∧ lo ≤ sz ∧ hW D cy lo w U.heap ∧ KK D cy U) av.toArray U := fun U hU hW =>
  ⟨rfl, by rw [hU]; exact hz, by rw [← hz, C.2.2.2.2.2.2.2.2.1]; exact hS.1, by rw [hU]; exact hw, KK.warm C.2.2.2.2.2.2.2.1 hW⟩
theorem l_callVg {a : Nat} {As fs S : List Value} (hco : MV mi' As.length ci) (hd : decode code pc = .ok (.invokevirtual idx, 3)) (hlink : Cond.methodLink RL idx mi'.1 ∈ lw_tb) (hE : Ev mi' d' (.ref a :: As) w sz mc' ms' Po') (hb : w a = some (ob ci fs)) (hstk : S = As.reverse ++ .ref a :: stk) (hdd : d' ≤ 7) (hst : (stk.map fun v => v.category).sum ≤ 8) (hmc : cells + mc' ≤ 600000) (hms : slots + ms' ≤ 7302250) (k : ∀ r w' z, Po' r w' z → VL b N xs w' z (cells + mc') (slots + ms') L (r.toList ++ stk) (pc + 3)) : VL b N xs (w) (sz) (cells) (slots) L (S) (pc) := by
  intro p l e s m below meth c lo D cy H locs ls C hw hz hS hl
  have hts := C.2.2.2.2.2.1
  subst hstk
  obtain ⟨r, hr, hrn⟩ : ∃ r, vwCl[ci]? = some r ∧ r.1 = mi'.1.cls := by
    have := hco.2.2.2
    cases h : vwCl[ci]? with
    | none => rw [h] at this; simp at this
    | some r => rw [h] at this; exact ⟨r, rfl, by simpa using this⟩
  have hrecv := va_recv C.2.2.2.2.2.2.2.1.1 (hw.ob hb) hr (q0 := 0) rfl
  rw [hrn] at hrecv
  refine l_ran (va_runV (As := As) (rest := stk) ⟨C.1, C.2.1, C.2.2.2.1, C.2.2.2.2.1, hts⟩ (hE l lo D cy) (cw := ⟨callB_of As.length hts (goodTbL hco.1.1) rfl rfl rfl (hts _ hco.1.2.1) (hts _ hlink) ⟨hco.1.2.2.1.1, hco.1.2.2.1.2, hco.1.2.2.2.1⟩ ⟨by show d' + 1 ≤ 9; omega, by show 8 + (mi'.2.2.1 + 11) + 36 * d' ≤ 312; have := hco.1.2.2.2.2; omega⟩, hts _ hco.2.1, hts _ hco.2.2.1⟩) ⟨pcBlind, hrecv, pcSL (av := .ref a :: As) C hw hz hS⟩ rfl rfl hl.1.1 rfl (lv_room hst) hd ⟨hmc, hms⟩) C hS hl k
theorem l_callI {y' : MethodName} {cc' : ByteArray} {n' : Nat} {a : Nat} {As S : List Value} (hco : MN (y', cc', n', none) As.length) (hd : decode code pc = .ok (.invokespecial idx, 3)) (hlink : Cond.methodLink RL idx y' ∈ lw_tb) (hE : Ev (y', cc', n', none) d' (.ref a :: As) w sz mc' ms' Po') (hstk : S = As.reverse ++ .ref a :: stk) (hdd : d' ≤ 7) (hst : (stk.map fun v => v.category).sum ≤ 8) (hmc : cells + mc' ≤ 600000) (hms : slots + ms' ≤ 7302250) (k : ∀ r w' z, Po' r w' z → VL b N xs w' z (cells + mc') (slots + ms') L (r.toList ++ stk) (pc + 3)) : VL b N xs (w) (sz) (cells) (slots) L (S) (pc) := by
  intro p l e s m below meth c lo D cy H locs ls C hw hz hS hl
  have hts := C.2.2.2.2.2.1
  subst hstk
  refine l_ran (va_runI (As := As) (rest := stk) ⟨C.1, C.2.1, C.2.2.2.1, C.2.2.2.2.1, hts⟩ (hE l lo D cy) (cw := ⟨callB_of As.length hts (goodTbL hco.1.1) rfl rfl rfl (hts _ hco.1.2.1) (hts _ hlink) ⟨hco.1.2.2.1.1, hco.1.2.2.1.2, hco.1.2.2.2.1⟩ ⟨by show d' + 1 ≤ 9; omega, by show 8 + (n' + 11) + 36 * d' ≤ 312; have : n' ≤ 17 := hco.1.2.2.2.2; omega⟩, hco.2.2.1, hts _ hco.2.1⟩) ⟨pcBlind, pcSL (av := .ref a :: As) C hw hz hS⟩ rfl rfl hl.1.1 rfl (lv_room hst) hd ⟨hmc, hms⟩) C hS hl k
end VL1
