section VN
variable {mi : MI} {d mc ms : Nat} {Po : Option Value → Wd → Nat → Prop} {w : Wd} {sz cells slots : Nat} {L : List (Option Value)} {stk : List Value} {pc : Nat} {a : Nat}
variable {ci : Nat} {C0 : String} {T : u_T} {N : Nat} {ty : Nat → FieldType}
theorem newS {lo : Nat} {H0 H H1 : Heap} {locs : List Loc} (hS : va_S (fun q => lo ≤ q) H0 H locs) (z : H1.size = H.size + 1) (oq : ∀ q : Nat, q < H.size → H1[q]? = H[q]?) : va_S (fun q => lo ≤ q) H0 H1 locs :=
  ⟨by rw [z]; exact Nat.le_trans hS.1 (Nat.le_succ _), fun q h1 h2 => by rw [oq q (Nat.lt_of_lt_of_le h1 hS.1)]; exact hS.2.1 q h1 h2, hS.2.2⟩
theorem v_new {idx : Nat} {fs : List Value} (hd : decode mi.2.1 pc = .ok (.new idx, 3)) (hF : FT ci C0 T N ty) (hcl : Cond.classLink mi.1.cls idx C0 ∈ lw_tb) (hinst : Cond.instantiable C0 N ∈ lw_tb) (hini : Cond.initialized C0 ∈ lw_tb) (hfs : ∀ j, j < N → defaultValue (ty j) = vp_V fs j) (hc : cells + 1 ≤ mc) (hs : slots + N ≤ ms) (kk : V mi d mc ms Po (wu w sz (ob ci fs)) (sz + 1) (cells + 1) (slots + N) L (.ref sz :: stk) (pc + 3)) : V mi d mc ms Po (w) (sz) (cells) (slots) L (stk) (pc) := by
  intro p l e s m args below meth c lo D cy H locs ls C hw hz hS hl
  subst hz
  have hts := C.2.2.2.2.2.1
  have hK := C.2.2.2.2.2.2.2.1.1
  have hKn := hK.1 ci _ hF.1
  have hlo : lo ≤ H.size := Nat.le_trans C.2.2.2.2.2.2.2.2.1 hS.1
  refine W.newcK C.1 C.2.1 C.2.2.2.2.1 (hts _ (List.mem_cons_of_mem _ hcl)) (hts _ (List.mem_cons_of_mem _ hinst)) (hts _ (List.mem_cons_of_mem _ hini)) rfl hd hc hs hKn.2.1 rfl fun H1 kC hkC e1 z1 o1 => ?_
  exact kk p l e s m args below meth c lo D cy H1 locs ls C (hw.pu hlo ⟨_, hF.1, (u_born ty hts (hF.ts mi) hKn hkC e1 hF.2.2.1).to hfs⟩ o1) z1 (newS hS z1 o1) hl
theorem v_newarr {t : Nat} {atype : ArrayType} {n : Nat} (ht : t < 2) (hd : decode mi.2.1 pc = .ok (.newarray atype, 2)) (hty : newarray.typeOf atype = tyA t) (hn : n ≤ 100000) (hc : cells + 1 ≤ mc) (hs : slots + n ≤ ms) (kk : V mi d mc ms Po (wu w sz (ia t n (fun _ => 0))) (sz + 1) (cells + 1) (slots + n) L (.ref sz :: stk) (pc + 2)) : V mi d mc ms Po (w) (sz) (cells) (slots) L (.int (nI n) :: stk) (pc) := by
  intro p l e s m args below meth c lo D cy H locs ls C hw hz hS hl
  subst hz
  have hts := C.2.2.2.2.2.1
  have hK := C.2.2.2.2.2.2.2.1.1
  have hlo : lo ≤ H.size := Nat.le_trans C.2.2.2.2.2.2.2.2.1 hS.1
  have en : (nI n).toNatClampNeg = n := nI_clamp (by omega)
  have hcb : componentBytes (newarray.typeOf atype) ≤ 8 ∧ defaultValue (newarray.typeOf atype) = .int 0 ∧ Cond.arrayClass (newarray.typeOf atype) ∈ lw_tb ∧ (∀ (U : State) (cA : ClassId), va_RA U cA (newarray.typeOf atype) = (U.vm.findClass ("[" ++ (newarray.typeOf atype).toString) = some cA)) := by
    rw [hty]
    match t, ht with
    | 0, _ => exact ⟨by decide, rfl, in_tb (by decide +kernel) rfl, fun U cA => rfl⟩
    | 1, _ => exact ⟨by decide, rfl, in_tb (by decide +kernel) rfl, fun U cA => rfl⟩
  obtain ⟨hb8, hdf, har, hRA⟩ := hcb
  refine va_newaK C.1 C.2.1 (hts _ (List.mem_cons_of_mem _ har)) rfl hd rfl (N := n) (nI_pos (by omega)) en (by have := Nat.mul_le_mul_left n hb8; omega) hc hs rfl fun H1 cA e1 z1 o1 hAr hNm => ?_
  have hcA : cA = cy t := by
    have h1 := (hK.2 t _ (tys5_at cy (Nat.lt_of_lt_of_le ht (by decide)))).2
    rw [← hty, hRA] at h1
    exact Option.some.inj (hNm.symm.trans h1)
  subst hcA
  refine kk p l e s m args below meth c lo D cy H1 locs ls C (hw.pu hlo ?_ o1) z1 (newS hS z1 o1) hl
  show H1[H.size]? = some (vp_cell _ _)
  rw [e1, hdf, vp_cell_i]
theorem v_anew {t idx n : Nat} {C1 : String} (ht : (t = 2 ∧ C1 = "VotedLabels$Label") ∨ (t = 3 ∧ C1 = "VotedLabels$Rewrite") ∨ (t = 4 ∧ C1 = "VotedLabels$State")) (hd : decode mi.2.1 pc = .ok (.anewarray idx, 3)) (hcl : Cond.classLink mi.1.cls idx C1 ∈ lw_tb) (hn : n ≤ 100000) (hc : cells + 1 ≤ mc) (hs : slots + n ≤ ms) (kk : V mi d mc ms Po (wu w sz (ra t n (fun _ => none))) (sz + 1) (cells + 1) (slots + n) L (.ref sz :: stk) (pc + 3)) : V mi d mc ms Po (w) (sz) (cells) (slots) L (.int (nI n) :: stk) (pc) := by
  intro p l e s m args below meth c lo D cy H locs ls C hw hz hS hl
  subst hz
  have hts := C.2.2.2.2.2.1
  have hK := C.2.2.2.2.2.2.2.1.1
  have hlo : lo ≤ H.size := Nat.le_trans C.2.2.2.2.2.2.2.2.1 hS.1
  have en : (nI n).toNatClampNeg = n := nI_clamp (by omega)
  have hAO : va_AO C1 s := by
    rcases ht with ⟨-, rfl⟩ | ⟨-, rfl⟩ | ⟨-, rfl⟩
    · exact C.2.2.2.2.2.2.2.1.2.2.1
    · exact C.2.2.2.2.2.2.2.1.2.2.2.1
    · exact C.2.2.2.2.2.2.2.1.2.2.2.2
  have hty : tyA t = .object C1 ∧ t < 5 := by
    rcases ht with ⟨rfl, rfl⟩ | ⟨rfl, rfl⟩ | ⟨rfl, rfl⟩
    · exact ⟨rfl, by decide⟩
    · exact ⟨rfl, by decide⟩
    · exact ⟨rfl, by decide⟩
  refine W.anew C.1 C.2.1 C.2.2.2.2.1 (hts _ (List.mem_cons_of_mem _ hcl)) (va_AO.use hAO) rfl hd rfl (nI_pos (by omega)) (by rw [en]; omega) hc (by rw [en]; exact hs) fun cA kA comp f1 f2 f3 f4 => ?_
  have hcA : cA = cy t := by
    have h1 := (hK.2 t _ (tys5_at cy hty.2)).2
    rw [hty.1] at h1
    obtain ⟨kA', comp', -, -, -, h4⟩ := h1
    exact Option.some.inj (f1.symm.trans h4)
  subst hcA
  rw [en]
  generalize hH1 : H.push ({ cls := cy t, slots := Array.replicate n .null, vm := .none } : Cell) = H1
  have z1 : H1.size = H.size + 1 := by rw [← hH1, Array.size_push]
  have e1 : H1[H.size]? = some (arrV (cy t) n (fun _ => .null)) := by rw [← hH1, Array.getElem?_push_size, ← arrV_new]
  have o1 : ∀ q : Nat, q < H.size → H1[q]? = H[q]? := fun q hq => by rw [← hH1, Array.getElem?_push, if_neg (Nat.ne_of_lt hq)]
  refine kk p l e s m args below meth c lo D cy H1 locs ls C (hw.pu hlo ?_ o1) z1 (newS hS z1 o1) hl
  show H1[H.size]? = some (vp_cell _ _)
  rw [e1, vp_cell_q]
  rfl
theorem v_objInit {idx : Nat} (hd : decode mi.2.1 pc = .ok (.invokespecial idx, 3)) (hlink : Cond.methodLink mi.1.cls idx Lib.objectInit ∈ lw_tb) (hd1 : 1 ≤ d) (hst : (stk.map fun v => v.category).sum ≤ 8) (kk : V mi d mc ms Po (w) (sz) (cells) (slots) L (stk) (pc + 3)) : V mi d mc ms Po (w) (sz) (cells) (slots) L (.ref a :: stk) (pc) := by
  intro p l e s m args below meth c lo D cy H locs ls C hw hz hS hl
  have hts := C.2.2.2.2.2.1
  exact W.objInit C.1 C.2.1 C.2.2.2.2.1 (hts _ (List.mem_cons_of_mem _ hlink)) (hts _ (List.mem_cons_of_mem _ (in_tb (by decide +kernel) rfl))) (hts _ (List.mem_cons_of_mem _ (in_tb (by decide +kernel) rfl))) rfl (hl.1.1.trans C.2.2.2.1.symm) rfl hd hd1 (by show 2 * 0 + _ + 12 ≤ 36 * d; omega) (kk p l e s m args below meth c lo D cy H locs ls C hw hz hS hl)
theorem v_mmax {idx : Nat} {x y : Int32} (hd : decode mi.2.1 pc = .ok (.invokestatic idx, 3)) (hlink : Cond.methodLink mi.1.cls idx Lib.Math.max.name ∈ lw_tb) (hd1 : 1 ≤ d) (hst : (stk.map fun v => v.category).sum ≤ 8) (hc : cells ≤ mc) (hs : slots ≤ ms) (kk : V mi d mc ms Po (w) (sz) (cells) (slots) L (.int (if x < y then y else x) :: stk) (pc + 3)) : V mi d mc ms Po (w) (sz) (cells) (slots) L (.int y :: .int x :: stk) (pc) := by
  intro p l e s m args below meth c lo D cy H locs ls C hw hz hS hl
  have hts := C.2.2.2.2.2.1
  exact va_mmax C.1 C.2.1 (C.2.2.2.1.trans hl.1.1.symm) C.2.2.2.2.1 (hts _ (List.mem_cons_of_mem _ hlink)) (hts _ (List.mem_cons_of_mem _ (in_tb (by decide +kernel) rfl))) (hts _ (List.mem_cons_of_mem _ (in_tb (by decide +kernel) rfl))) (hts _ (List.mem_cons_of_mem _ (in_tb (by decide +kernel) rfl))) hd1 (by show _ + 13 ≤ 36 * d; omega) hc hs hd (kk p l e s m args below meth c lo D cy H locs ls C hw hz hS hl)
end VN
/-! ===== calls ===== -/
theorem goodTb {mi mi' : MI} (h : miW mi' ∈ lw_tb) : GoodIn (miWs mi) (miWs mi') := by
  intro w hw
  have h1 : w ∈ lw_tb := by
    rcases List.mem_cons.mp hw with e | e
    · rw [e]; exact h
    · exact e
  exact ⟨List.mem_cons_of_mem _ h1, good_of_word (tb_in h1).2⟩
/-- a method of the tables: its code word, that it is set up; n: its parameters -/
def MO (mi' : MI) (n : Nat) : Prop := miW mi' ∈ lw_tb ∧ Cond.initialized mi'.1.cls ∈ lw_tb ∧ (mi'.1.cls ≠ "java/lang/invoke/MethodHandle" ∧ mi'.1.cls ≠ "java/lang/invoke/VarHandle") ∧ (parseMethodDescriptor mi'.1.desc).map (fun q => q.parameters.length) = some n ∧ mi'.2.2.1 ≤ 17
def MV (mi' : MI) (n ci : Nat) : Prop := MO mi' n ∧ Cond.instanceMethod mi'.1 ∈ lw_tb ∧ Cond.selects mi'.1.cls mi'.1 mi'.1 ∈ lw_tb ∧ (vwCl[ci]?).map (fun q => q.1) = some mi'.1.cls
def MS (mi' : MI) (n : Nat) : Prop := MO mi' n ∧ Cond.static mi'.1 ∈ lw_tb
def MN (mi' : MI) (n : Nat) : Prop := MO mi' n ∧ Cond.instanceMethod mi'.1 ∈ lw_tb ∧ mi'.1.name = "<init>" ∧ mi'.2.2.2 = none
def Cl0 (Po : Option Value → Wd → Nat → Prop) (mi : MI) (d mc ms : Nat) (w : Wd) (sz cells slots : Nat) (L : List (Option Value)) (stk : List Value) (pc : Nat) : Prop := V mi d mc ms Po w sz cells slots L stk pc
section VCALL
variable {mi : MI} {d mc ms : Nat} {Po : Option Value → Wd → Nat → Prop} {w : Wd} {sz cells slots : Nat} {L : List (Option Value)} {stk : List Value} {pc : Nat}
variable {mi' : MI} {d' idx ci mc' ms' : Nat} {Po' : Option Value → Wd → Nat → Prop}
theorem v_ran {p : Program} {l : Launch} {e : Env} {s : State} {m : MethodId} {args : Array Value} {below : List Frame} {meth : Method} {c : Code} {lo : Nat} {D : va_G} {cy : Nat → ClassId} {H : Heap} {locs : List Loc} {ls : Array Slot} {st0 : List Value} {av : Array Value}
    (hr : va_Run p l e (rmd d mc ms) s m args below meth c H locs cells slots mc' ms' (F0 m pc ls st0) stk (Qd Po' D cy lo av) (fun q => lo ≤ q)) (C : Cx p s m args meth c mi D cy lo) (hS : va_S (fun q => lo ≤ q) s.heap H locs) (hl : lvs ls mi.2.2.1 L)
    (k : ∀ r w' z, Po' r w' z → V mi d mc ms Po w' z (cells + mc') (slots + ms') L (r.toList ++ stk) (pc + 3)) : W p l e (rmd d mc ms) s m args below meth c H locs cells slots (MQ below (Qd Po D cy lo) args s mc ms (fun q => lo ≤ q)) (F0 m pc ls st0) := by
  intro T hT X
  obtain ⟨v, st₀, t, T', L1, h0, X', hL, e1, e2, ⟨r, w', hv, hw', hp, hz, hk⟩, step⟩ := hr T hT X
  cases hv
  rw [h0] at hz hk
  obtain ⟨t2, a1, b1⟩ := k _ w' _ hp p l e s m args below meth c lo D cy T'.heap (locs ++ L1) ls C (by rw [e1]; exact hw') (by rw [e1]) ⟨Nat.le_trans hS.1 (by rw [e1]; exact hz), fun q h1 h2 => by rw [e1, hk q (Nat.lt_of_lt_of_le h1 hS.1) h2]; exact hS.2.1 q h1 h2, fun q hq => by
      rcases List.mem_append.mp hq with h | h
      · exact hS.2.2 q h
      · exact hL q h⟩ hl T' rfl X'
  exact ⟨t2, step t2 a1, b1⟩
theorem pcBlind {av : List Value} {lo : Nat} {D : va_G} {cy : Nat → ClassId} : FrameBlind (va_Pc av (fun U => U.heap.size = sz ∧ lo ≤ sz ∧ hW D cy lo w U.heap ∧ KK D cy U)) := fun a U g mk q => by
  obtain ⟨q0, q1, q2, q3, q4⟩ := q
  exact ⟨q0, q1, q2, q3, KK.same q4 rfl⟩
theorem pcS {av : List Value} {lo : Nat} {D : va_G} {cy : Nat → ClassId} {s : State} {H : Heap} {locs : List Loc} {p : Program} {m : MethodId} {args : Array Value} {meth : Method} {c : Code} (C : Cx p s m args meth c mi D cy lo) (hw : hW D cy lo w H) (hz : H.size = sz) (hS : va_S (fun q => lo ≤ q) s.heap H locs) : ∀ U : State, U.heap = H → s.WarmedH U.vm → va_Pc av (fun U => U.heap.size = sz ∧ lo ≤ sz ∧ hW D cy lo w U.heap ∧ KK D cy U) av.toArray U := fun U hU hW =>
  ⟨rfl, by rw [hU]; exact hz, by rw [← hz]; exact Nat.le_trans C.2.2.2.2.2.2.2.2.1 hS.1, by rw [hU]; exact hw, KK.warm C.2.2.2.2.2.2.2.1 hW⟩
theorem v_callVg {b : Nat} {As fs S : List Value} (hco : MV mi' As.length ci) (hd : decode mi.2.1 pc = .ok (.invokevirtual idx, 3)) (hlink : Cond.methodLink mi.1.cls idx mi'.1 ∈ lw_tb) (hE : Ev mi' d' (.ref b :: As) w sz mc' ms' Po') (hb : w b = some (ob ci fs)) (hstk : S = As.reverse ++ .ref b :: stk) (hdd : d' + 1 ≤ d) (hst : (stk.map fun v => v.category).sum ≤ 8) (hmc : cells + mc' ≤ mc) (hms : slots + ms' ≤ ms) (k : ∀ r w' z, Po' r w' z → V mi d mc ms Po w' z (cells + mc') (slots + ms') L (r.toList ++ stk) (pc + 3)) : V mi d mc ms Po (w) (sz) (cells) (slots) L (S) (pc) := by
  intro p l e s m args below meth c lo D cy H locs ls C hw hz hS hl
  have hts := C.2.2.2.2.2.1
  subst hstk
  have hI : ∀ q, q ∈ lw_tb → q.before args s = true := fun q h => hts _ (List.mem_cons_of_mem _ h)
  obtain ⟨r, hr, hrn⟩ : ∃ r, vwCl[ci]? = some r ∧ r.1 = mi'.1.cls := by
    have := hco.2.2.2
    cases h : vwCl[ci]? with
    | none => rw [h] at this; simp at this
    | some r => rw [h] at this; exact ⟨r, rfl, by simpa using this⟩
  have hrecv := va_recv C.2.2.2.2.2.2.2.1.1 (hw.ob hb) hr (q0 := 0) rfl
  rw [hrn] at hrecv
  refine v_ran (va_runV (As := As) (rest := stk) ⟨C.1, C.2.1, C.2.2.2.1, C.2.2.2.2.1, C.2.2.2.2.2.1⟩ (hE l lo D cy) (cw := ⟨callB_of As.length hts (goodTb hco.1.1) rfl rfl rfl (hI _ hco.1.2.1) (hI _ hlink) ⟨hco.1.2.2.1.1, hco.1.2.2.1.2, hco.1.2.2.2.1⟩ ⟨hdd, by show 8 + (mi'.2.2.1 + 11) + 36 * d' ≤ 36 * d; have := hco.1.2.2.2.2; omega⟩, hI _ hco.2.1, hI _ hco.2.2.1⟩) ⟨pcBlind, hrecv, pcS (av := .ref b :: As) C hw hz hS⟩ rfl rfl hl.1.1 rfl (lv_room hst) hd ⟨hmc, hms⟩) C hS hl k
theorem v_callSg {As S : List Value} (hco : MS mi' As.length) (hd : decode mi.2.1 pc = .ok (.invokestatic idx, 3)) (hlink : Cond.methodLink mi.1.cls idx mi'.1 ∈ lw_tb) (hE : Ev mi' d' As w sz mc' ms' Po') (hstk : S = As.reverse ++ stk) (hdd : d' + 1 ≤ d) (hst : (stk.map fun v => v.category).sum ≤ 8) (hmc : cells + mc' ≤ mc) (hms : slots + ms' ≤ ms) (k : ∀ r w' z, Po' r w' z → V mi d mc ms Po w' z (cells + mc') (slots + ms') L (r.toList ++ stk) (pc + 3)) : V mi d mc ms Po (w) (sz) (cells) (slots) L (S) (pc) := by
  intro p l e s m args below meth c lo D cy H locs ls C hw hz hS hl
  have hts := C.2.2.2.2.2.1
  subst hstk
  have hI : ∀ q, q ∈ lw_tb → q.before args s = true := fun q h => hts _ (List.mem_cons_of_mem _ h)
  refine v_ran (va_runS (As := As) (rest := stk) ⟨C.1, C.2.1, C.2.2.2.1, C.2.2.2.2.1, C.2.2.2.2.2.1⟩ (hE l lo D cy) (cw := ⟨callB_of As.length hts (goodTb hco.1.1) rfl rfl rfl (hI _ hco.1.2.1) (hI _ hlink) ⟨hco.1.2.2.1.1, hco.1.2.2.1.2, hco.1.2.2.2.1⟩ ⟨hdd, by show 8 + (mi'.2.2.1 + 11) + 36 * d' ≤ 36 * d; have := hco.1.2.2.2.2; omega⟩, hI _ hco.2⟩) ⟨pcBlind, pcS C hw hz hS⟩ rfl rfl hl.1.1 rfl (lv_room hst) hd ⟨hmc, hms⟩) C hS hl k
theorem v_callSN {As S : List Value} (hco : MS mi' As.length) (hd : decode mi.2.1 pc = .ok (.invokestatic idx, 3)) (hlink : (mi.1.cls, idx, mi'.1, "VotedLabels") ∈ nests) (hE : Ev mi' d' As w sz mc' ms' Po') (hstk : S = As.reverse ++ stk) (hdd : d' + 1 ≤ d) (hst : (stk.map fun v => v.category).sum ≤ 8) (hmc : cells + mc' ≤ mc) (hms : slots + ms' ≤ ms) (k : ∀ r w' z, Po' r w' z → V mi d mc ms Po w' z (cells + mc') (slots + ms') L (r.toList ++ stk) (pc + 3)) : V mi d mc ms Po (w) (sz) (cells) (slots) L (S) (pc) := by
  intro p l e s m args below meth c lo D cy H locs ls C hw hz hS hl
  have hts := C.2.2.2.2.2.1
  subst hstk
  have hI : ∀ q, q ∈ lw_tb → q.before args s = true := fun q h => hts _ (List.mem_cons_of_mem _ h)
  refine v_ran (va_runSN (As := As) (rest := stk) ⟨C.1, C.2.1, C.2.2.2.1, C.2.2.2.2.1, C.2.2.2.2.2.1⟩ (hE l lo D cy) (cw := ⟨va_cnB As.length hts (goodTb hco.1.1) rfl rfl rfl (C.2.2.2.2.2.2.2.1.2.1 _ hlink) (hI _ hco.1.2.1) ⟨hco.1.2.2.1.1, hco.1.2.2.1.2, hco.1.2.2.2.1⟩ ⟨hdd, by show 8 + (mi'.2.2.1 + 11) + 36 * d' ≤ 36 * d; have := hco.1.2.2.2.2; omega⟩, hI _ hco.2, trivial⟩) ⟨pcBlind, pcS C hw hz hS⟩ rfl rfl hl.1.1 rfl (lv_room hst) hd ⟨hmc, hms⟩) C hS hl k
theorem v_callI {y' : MethodName} {cc' : ByteArray} {n' : Nat} {b : Nat} {As S : List Value} (hco : MN (y', cc', n', none) As.length) (hd : decode mi.2.1 pc = .ok (.invokespecial idx, 3)) (hlink : Cond.methodLink mi.1.cls idx y' ∈ lw_tb) (hE : Ev (y', cc', n', none) d' (.ref b :: As) w sz mc' ms' Po') (hstk : S = As.reverse ++ .ref b :: stk) (hdd : d' + 1 ≤ d) (hst : (stk.map fun v => v.category).sum ≤ 8) (hmc : cells + mc' ≤ mc) (hms : slots + ms' ≤ ms) (k : ∀ r w' z, Po' r w' z → V mi d mc ms Po w' z (cells + mc') (slots + ms') L (r.toList ++ stk) (pc + 3)) : V mi d mc ms Po (w) (sz) (cells) (slots) L (S) (pc) := by
  intro p l e s m args below meth c lo D cy H locs ls C hw hz hS hl
  have hts := C.2.2.2.2.2.1
  subst hstk
  have hI : ∀ q, q ∈ lw_tb → q.before args s = true := fun q h => hts _ (List.mem_cons_of_mem _ h)
  refine v_ran (va_runI (As := As) (rest := stk) ⟨C.1, C.2.1, C.2.2.2.1, C.2.2.2.2.1, C.2.2.2.2.2.1⟩ (hE l lo D cy) (cw := ⟨callB_of As.length hts (goodTb hco.1.1) rfl rfl rfl (hI _ hco.1.2.1) (hI _ hlink) ⟨hco.1.2.2.1.1, hco.1.2.2.1.2, hco.1.2.2.2.1⟩ ⟨hdd, by show 8 + (n' + 11) + 36 * d' ≤ 36 * d; have : n' ≤ 17 := hco.1.2.2.2.2; omega⟩, hco.2.2.1, hI _ hco.2.1⟩) ⟨pcBlind, pcS (av := .ref b :: As) C hw hz hS⟩ rfl rfl hl.1.1 rfl (lv_room hst) hd ⟨hmc, hms⟩) C hS hl k
theorem v_callIN {y' : MethodName} {cc' : ByteArray} {n' : Nat} {b : Nat} {As S : List Value} (hco : MN (y', cc', n', none) As.length) (hd : decode mi.2.1 pc = .ok (.invokespecial idx, 3)) (hlink : (mi.1.cls, idx, y', "VotedLabels") ∈ nests) (hE : Ev (y', cc', n', none) d' (.ref b :: As) w sz mc' ms' Po') (hstk : S = As.reverse ++ .ref b :: stk) (hdd : d' + 1 ≤ d) (hst : (stk.map fun v => v.category).sum ≤ 8) (hmc : cells + mc' ≤ mc) (hms : slots + ms' ≤ ms) (k : ∀ r w' z, Po' r w' z → V mi d mc ms Po w' z (cells + mc') (slots + ms') L (r.toList ++ stk) (pc + 3)) : V mi d mc ms Po (w) (sz) (cells) (slots) L (S) (pc) := by
  intro p l e s m args below meth c lo D cy H locs ls C hw hz hS hl
  have hts := C.2.2.2.2.2.1
  subst hstk
  have hI : ∀ q, q ∈ lw_tb → q.before args s = true := fun q h => hts _ (List.mem_cons_of_mem _ h)
  refine v_ran (va_runIN (As := As) (rest := stk) ⟨C.1, C.2.1, C.2.2.2.1, C.2.2.2.2.1, C.2.2.2.2.2.1⟩ (hE l lo D cy) (cw := ⟨va_cnB As.length hts (goodTb hco.1.1) rfl rfl rfl (C.2.2.2.2.2.2.2.1.2.1 _ hlink) (hI _ hco.1.2.1) ⟨hco.1.2.2.1.1, hco.1.2.2.1.2, hco.1.2.2.2.1⟩ ⟨hdd, by show 8 + (n' + 11) + 36 * d' ≤ 36 * d; have : n' ≤ 17 := hco.1.2.2.2.2; omega⟩, hco.2.2.1, hI _ hco.2.1⟩) ⟨pcBlind, pcS (av := .ref b :: As) C hw hz hS⟩ rfl rfl hl.1.1 rfl (lv_room hst) hd ⟨hmc, hms⟩) C hS hl k
/-- a method that only reads: it answers r, and the world stays -/
def Rd (mi' : MI) (d' : Nat) (av : List Value) (w : Wd) (r : Option Value) : Prop := ∀ sz, Ev mi' d' av w sz 0 0 (fun r' w' z => r' = r ∧ w' = w ∧ z = sz)
/-- a method that makes no cell -/
def Wr (mi' : MI) (d' : Nat) (av : List Value) (w : Wd) (Q : Option Value → Wd → Prop) : Prop := ∀ sz, Ev mi' d' av w sz 0 0 (fun r' w' z => z = sz ∧ Q r' w')
theorem Rd.mk {av : List Value} {r : Option Value} (h : ∀ sz, Ev mi' d' av w sz 0 0 (fun r' w' z => r' = r ∧ w' = w ∧ z = sz)) : Rd mi' d' av w r := h

theorem v_rV0 {b : Nat} {fs : List Value} {r : Option Value} (hco : MV mi' 0 ci) (hd : decode mi.2.1 pc = .ok (.invokevirtual idx, 3)) (hlink : Cond.methodLink mi.1.cls idx mi'.1 ∈ lw_tb) (hE : Rd mi' d' (.ref b :: []) w r) (hb : w b = some (ob ci fs)) (hdd : d' + 1 ≤ d) (hst : (stk.map fun v => v.category).sum ≤ 8) (hmc : cells ≤ mc) (hms : slots ≤ ms) (k : V mi d mc ms Po (w) (sz) (cells) (slots) L (r.toList ++ stk) (pc + 3)) : V mi d mc ms Po (w) (sz) (cells) (slots) L (.ref b :: stk) (pc) :=
  v_callVg (As := []) hco hd hlink (hE sz) hb rfl hdd hst hmc hms (fun _ _ _ h => by obtain ⟨rfl, rfl, rfl⟩ := h; exact k)
theorem v_wV0 {b : Nat} {fs : List Value} {Q : Option Value → Wd → Prop} (hco : MV mi' 0 ci) (hd : decode mi.2.1 pc = .ok (.invokevirtual idx, 3)) (hlink : Cond.methodLink mi.1.cls idx mi'.1 ∈ lw_tb) (hE : Wr mi' d' (.ref b :: []) w Q) (hb : w b = some (ob ci fs)) (hdd : d' + 1 ≤ d) (hst : (stk.map fun v => v.category).sum ≤ 8) (hmc : cells ≤ mc) (hms : slots ≤ ms) (k : ∀ r w', Q r w' → V mi d mc ms Po w' sz cells slots L (r.toList ++ stk) (pc + 3)) : V mi d mc ms Po (w) (sz) (cells) (slots) L (.ref b :: stk) (pc) :=
  v_callVg (As := []) hco hd hlink (hE sz) hb rfl hdd hst hmc hms (fun r w' _ h => by obtain ⟨rfl, hq⟩ := h; exact k r w' hq)
theorem v_rV1 {b : Nat} {x0 : Value} {fs : List Value} {r : Option Value} (hco : MV mi' 1 ci) (hd : decode mi.2.1 pc = .ok (.invokevirtual idx, 3)) (hlink : Cond.methodLink mi.1.cls idx mi'.1 ∈ lw_tb) (hE : Rd mi' d' (.ref b :: [x0]) w r) (hb : w b = some (ob ci fs)) (hdd : d' + 1 ≤ d) (hst : (stk.map fun v => v.category).sum ≤ 8) (hmc : cells ≤ mc) (hms : slots ≤ ms) (k : V mi d mc ms Po (w) (sz) (cells) (slots) L (r.toList ++ stk) (pc + 3)) : V mi d mc ms Po (w) (sz) (cells) (slots) L (x0 :: .ref b :: stk) (pc) :=
  v_callVg (As := [x0]) hco hd hlink (hE sz) hb rfl hdd hst hmc hms (fun _ _ _ h => by obtain ⟨rfl, rfl, rfl⟩ := h; exact k)
theorem v_wV1 {b : Nat} {x0 : Value} {fs : List Value} {Q : Option Value → Wd → Prop} (hco : MV mi' 1 ci) (hd : decode mi.2.1 pc = .ok (.invokevirtual idx, 3)) (hlink : Cond.methodLink mi.1.cls idx mi'.1 ∈ lw_tb) (hE : Wr mi' d' (.ref b :: [x0]) w Q) (hb : w b = some (ob ci fs)) (hdd : d' + 1 ≤ d) (hst : (stk.map fun v => v.category).sum ≤ 8) (hmc : cells ≤ mc) (hms : slots ≤ ms) (k : ∀ r w', Q r w' → V mi d mc ms Po w' sz cells slots L (r.toList ++ stk) (pc + 3)) : V mi d mc ms Po (w) (sz) (cells) (slots) L (x0 :: .ref b :: stk) (pc) :=
  v_callVg (As := [x0]) hco hd hlink (hE sz) hb rfl hdd hst hmc hms (fun r w' _ h => by obtain ⟨rfl, hq⟩ := h; exact k r w' hq)
theorem v_rS1 {x0 : Value} {r : Option Value} (hco : MS mi' 1) (hd : decode mi.2.1 pc = .ok (.invokestatic idx, 3)) (hlink : Cond.methodLink mi.1.cls idx mi'.1 ∈ lw_tb) (hE : Rd mi' d' [x0] w r) (hdd : d' + 1 ≤ d) (hst : (stk.map fun v => v.category).sum ≤ 8) (hmc : cells ≤ mc) (hms : slots ≤ ms) (k : V mi d mc ms Po (w) (sz) (cells) (slots) L (r.toList ++ stk) (pc + 3)) : V mi d mc ms Po (w) (sz) (cells) (slots) L (x0 :: stk) (pc) :=
  v_callSg (As := [x0]) hco hd hlink (hE sz) rfl hdd hst hmc hms (fun _ _ _ h => by obtain ⟨rfl, rfl, rfl⟩ := h; exact k)
theorem v_wS1 {x0 : Value} {Q : Option Value → Wd → Prop} (hco : MS mi' 1) (hd : decode mi.2.1 pc = .ok (.invokestatic idx, 3)) (hlink : Cond.methodLink mi.1.cls idx mi'.1 ∈ lw_tb) (hE : Wr mi' d' [x0] w Q) (hdd : d' + 1 ≤ d) (hst : (stk.map fun v => v.category).sum ≤ 8) (hmc : cells ≤ mc) (hms : slots ≤ ms) (k : ∀ r w', Q r w' → V mi d mc ms Po w' sz cells slots L (r.toList ++ stk) (pc + 3)) : V mi d mc ms Po (w) (sz) (cells) (slots) L (x0 :: stk) (pc) :=
  v_callSg (As := [x0]) hco hd hlink (hE sz) rfl hdd hst hmc hms (fun r w' _ h => by obtain ⟨rfl, hq⟩ := h; exact k r w' hq)
theorem v_rSN1 {x0 : Value} {r : Option Value} (hco : MS mi' 1) (hd : decode mi.2.1 pc = .ok (.invokestatic idx, 3)) (hlink : (mi.1.cls, idx, mi'.1, "VotedLabels") ∈ nests) (hE : Rd mi' d' [x0] w r) (hdd : d' + 1 ≤ d) (hst : (stk.map fun v => v.category).sum ≤ 8) (hmc : cells ≤ mc) (hms : slots ≤ ms) (k : V mi d mc ms Po (w) (sz) (cells) (slots) L (r.toList ++ stk) (pc + 3)) : V mi d mc ms Po (w) (sz) (cells) (slots) L (x0 :: stk) (pc) :=
  v_callSN (As := [x0]) hco hd hlink (hE sz) rfl hdd hst hmc hms (fun _ _ _ h => by obtain ⟨rfl, rfl, rfl⟩ := h; exact k)
theorem v_rV2 {b : Nat} {x0 x1 : Value} {fs : List Value} {r : Option Value} (hco : MV mi' 2 ci) (hd : decode mi.2.1 pc = .ok (.invokevirtual idx, 3)) (hlink : Cond.methodLink mi.1.cls idx mi'.1 ∈ lw_tb) (hE : Rd mi' d' (.ref b :: [x0, x1]) w r) (hb : w b = some (ob ci fs)) (hdd : d' + 1 ≤ d) (hst : (stk.map fun v => v.category).sum ≤ 8) (hmc : cells ≤ mc) (hms : slots ≤ ms) (k : V mi d mc ms Po (w) (sz) (cells) (slots) L (r.toList ++ stk) (pc + 3)) : V mi d mc ms Po (w) (sz) (cells) (slots) L (x1 :: x0 :: .ref b :: stk) (pc) :=
  v_callVg (As := [x0, x1]) hco hd hlink (hE sz) hb rfl hdd hst hmc hms (fun _ _ _ h => by obtain ⟨rfl, rfl, rfl⟩ := h; exact k)
theorem v_wV2 {b : Nat} {x0 x1 : Value} {fs : List Value} {Q : Option Value → Wd → Prop} (hco : MV mi' 2 ci) (hd : decode mi.2.1 pc = .ok (.invokevirtual idx, 3)) (hlink : Cond.methodLink mi.1.cls idx mi'.1 ∈ lw_tb) (hE : Wr mi' d' (.ref b :: [x0, x1]) w Q) (hb : w b = some (ob ci fs)) (hdd : d' + 1 ≤ d) (hst : (stk.map fun v => v.category).sum ≤ 8) (hmc : cells ≤ mc) (hms : slots ≤ ms) (k : ∀ r w', Q r w' → V mi d mc ms Po w' sz cells slots L (r.toList ++ stk) (pc + 3)) : V mi d mc ms Po (w) (sz) (cells) (slots) L (x1 :: x0 :: .ref b :: stk) (pc) :=
  v_callVg (As := [x0, x1]) hco hd hlink (hE sz) hb rfl hdd hst hmc hms (fun r w' _ h => by obtain ⟨rfl, hq⟩ := h; exact k r w' hq)
theorem v_rS2 {x0 x1 : Value} {r : Option Value} (hco : MS mi' 2) (hd : decode mi.2.1 pc = .ok (.invokestatic idx, 3)) (hlink : Cond.methodLink mi.1.cls idx mi'.1 ∈ lw_tb) (hE : Rd mi' d' [x0, x1] w r) (hdd : d' + 1 ≤ d) (hst : (stk.map fun v => v.category).sum ≤ 8) (hmc : cells ≤ mc) (hms : slots ≤ ms) (k : V mi d mc ms Po (w) (sz) (cells) (slots) L (r.toList ++ stk) (pc + 3)) : V mi d mc ms Po (w) (sz) (cells) (slots) L (x1 :: x0 :: stk) (pc) :=
  v_callSg (As := [x0, x1]) hco hd hlink (hE sz) rfl hdd hst hmc hms (fun _ _ _ h => by obtain ⟨rfl, rfl, rfl⟩ := h; exact k)
theorem v_wS2 {x0 x1 : Value} {Q : Option Value → Wd → Prop} (hco : MS mi' 2) (hd : decode mi.2.1 pc = .ok (.invokestatic idx, 3)) (hlink : Cond.methodLink mi.1.cls idx mi'.1 ∈ lw_tb) (hE : Wr mi' d' [x0, x1] w Q) (hdd : d' + 1 ≤ d) (hst : (stk.map fun v => v.category).sum ≤ 8) (hmc : cells ≤ mc) (hms : slots ≤ ms) (k : ∀ r w', Q r w' → V mi d mc ms Po w' sz cells slots L (r.toList ++ stk) (pc + 3)) : V mi d mc ms Po (w) (sz) (cells) (slots) L (x1 :: x0 :: stk) (pc) :=
  v_callSg (As := [x0, x1]) hco hd hlink (hE sz) rfl hdd hst hmc hms (fun r w' _ h => by obtain ⟨rfl, hq⟩ := h; exact k r w' hq)
theorem v_rSN2 {x0 x1 : Value} {r : Option Value} (hco : MS mi' 2) (hd : decode mi.2.1 pc = .ok (.invokestatic idx, 3)) (hlink : (mi.1.cls, idx, mi'.1, "VotedLabels") ∈ nests) (hE : Rd mi' d' [x0, x1] w r) (hdd : d' + 1 ≤ d) (hst : (stk.map fun v => v.category).sum ≤ 8) (hmc : cells ≤ mc) (hms : slots ≤ ms) (k : V mi d mc ms Po (w) (sz) (cells) (slots) L (r.toList ++ stk) (pc + 3)) : V mi d mc ms Po (w) (sz) (cells) (slots) L (x1 :: x0 :: stk) (pc) :=
  v_callSN (As := [x0, x1]) hco hd hlink (hE sz) rfl hdd hst hmc hms (fun _ _ _ h => by obtain ⟨rfl, rfl, rfl⟩ := h; exact k)
theorem v_rV3 {b : Nat} {x0 x1 x2 : Value} {fs : List Value} {r : Option Value} (hco : MV mi' 3 ci) (hd : decode mi.2.1 pc = .ok (.invokevirtual idx, 3)) (hlink : Cond.methodLink mi.1.cls idx mi'.1 ∈ lw_tb) (hE : Rd mi' d' (.ref b :: [x0, x1, x2]) w r) (hb : w b = some (ob ci fs)) (hdd : d' + 1 ≤ d) (hst : (stk.map fun v => v.category).sum ≤ 8) (hmc : cells ≤ mc) (hms : slots ≤ ms) (k : V mi d mc ms Po (w) (sz) (cells) (slots) L (r.toList ++ stk) (pc + 3)) : V mi d mc ms Po (w) (sz) (cells) (slots) L (x2 :: x1 :: x0 :: .ref b :: stk) (pc) :=
  v_callVg (As := [x0, x1, x2]) hco hd hlink (hE sz) hb rfl hdd hst hmc hms (fun _ _ _ h => by obtain ⟨rfl, rfl, rfl⟩ := h; exact k)
theorem v_wV3 {b : Nat} {x0 x1 x2 : Value} {fs : List Value} {Q : Option Value → Wd → Prop} (hco : MV mi' 3 ci) (hd : decode mi.2.1 pc = .ok (.invokevirtual idx, 3)) (hlink : Cond.methodLink mi.1.cls idx mi'.1 ∈ lw_tb) (hE : Wr mi' d' (.ref b :: [x0, x1, x2]) w Q) (hb : w b = some (ob ci fs)) (hdd : d' + 1 ≤ d) (hst : (stk.map fun v => v.category).sum ≤ 8) (hmc : cells ≤ mc) (hms : slots ≤ ms) (k : ∀ r w', Q r w' → V mi d mc ms Po w' sz cells slots L (r.toList ++ stk) (pc + 3)) : V mi d mc ms Po (w) (sz) (cells) (slots) L (x2 :: x1 :: x0 :: .ref b :: stk) (pc) :=
  v_callVg (As := [x0, x1, x2]) hco hd hlink (hE sz) hb rfl hdd hst hmc hms (fun r w' _ h => by obtain ⟨rfl, hq⟩ := h; exact k r w' hq)
theorem v_rS3 {x0 x1 x2 : Value} {r : Option Value} (hco : MS mi' 3) (hd : decode mi.2.1 pc = .ok (.invokestatic idx, 3)) (hlink : Cond.methodLink mi.1.cls idx mi'.1 ∈ lw_tb) (hE : Rd mi' d' [x0, x1, x2] w r) (hdd : d' + 1 ≤ d) (hst : (stk.map fun v => v.category).sum ≤ 8) (hmc : cells ≤ mc) (hms : slots ≤ ms) (k : V mi d mc ms Po (w) (sz) (cells) (slots) L (r.toList ++ stk) (pc + 3)) : V mi d mc ms Po (w) (sz) (cells) (slots) L (x2 :: x1 :: x0 :: stk) (pc) :=
  v_callSg (As := [x0, x1, x2]) hco hd hlink (hE sz) rfl hdd hst hmc hms (fun _ _ _ h => by obtain ⟨rfl, rfl, rfl⟩ := h; exact k)
theorem v_wS3 {x0 x1 x2 : Value} {Q : Option Value → Wd → Prop} (hco : MS mi' 3) (hd : decode mi.2.1 pc = .ok (.invokestatic idx, 3)) (hlink : Cond.methodLink mi.1.cls idx mi'.1 ∈ lw_tb) (hE : Wr mi' d' [x0, x1, x2] w Q) (hdd : d' + 1 ≤ d) (hst : (stk.map fun v => v.category).sum ≤ 8) (hmc : cells ≤ mc) (hms : slots ≤ ms) (k : ∀ r w', Q r w' → V mi d mc ms Po w' sz cells slots L (r.toList ++ stk) (pc + 3)) : V mi d mc ms Po (w) (sz) (cells) (slots) L (x2 :: x1 :: x0 :: stk) (pc) :=
  v_callSg (As := [x0, x1, x2]) hco hd hlink (hE sz) rfl hdd hst hmc hms (fun r w' _ h => by obtain ⟨rfl, hq⟩ := h; exact k r w' hq)
theorem v_rSN3 {x0 x1 x2 : Value} {r : Option Value} (hco : MS mi' 3) (hd : decode mi.2.1 pc = .ok (.invokestatic idx, 3)) (hlink : (mi.1.cls, idx, mi'.1, "VotedLabels") ∈ nests) (hE : Rd mi' d' [x0, x1, x2] w r) (hdd : d' + 1 ≤ d) (hst : (stk.map fun v => v.category).sum ≤ 8) (hmc : cells ≤ mc) (hms : slots ≤ ms) (k : V mi d mc ms Po (w) (sz) (cells) (slots) L (r.toList ++ stk) (pc + 3)) : V mi d mc ms Po (w) (sz) (cells) (slots) L (x2 :: x1 :: x0 :: stk) (pc) :=
  v_callSN (As := [x0, x1, x2]) hco hd hlink (hE sz) rfl hdd hst hmc hms (fun _ _ _ h => by obtain ⟨rfl, rfl, rfl⟩ := h; exact k)
theorem v_rV4 {b : Nat} {x0 x1 x2 x3 : Value} {fs : List Value} {r : Option Value} (hco : MV mi' 4 ci) (hd : decode mi.2.1 pc = .ok (.invokevirtual idx, 3)) (hlink : Cond.methodLink mi.1.cls idx mi'.1 ∈ lw_tb) (hE : Rd mi' d' (.ref b :: [x0, x1, x2, x3]) w r) (hb : w b = some (ob ci fs)) (hdd : d' + 1 ≤ d) (hst : (stk.map fun v => v.category).sum ≤ 8) (hmc : cells ≤ mc) (hms : slots ≤ ms) (k : V mi d mc ms Po (w) (sz) (cells) (slots) L (r.toList ++ stk) (pc + 3)) : V mi d mc ms Po (w) (sz) (cells) (slots) L (x3 :: x2 :: x1 :: x0 :: .ref b :: stk) (pc) :=
  v_callVg (As := [x0, x1, x2, x3]) hco hd hlink (hE sz) hb rfl hdd hst hmc hms (fun _ _ _ h => by obtain ⟨rfl, rfl, rfl⟩ := h; exact k)
theorem v_wV4 {b : Nat} {x0 x1 x2 x3 : Value} {fs : List Value} {Q : Option Value → Wd → Prop} (hco : MV mi' 4 ci) (hd : decode mi.2.1 pc = .ok (.invokevirtual idx, 3)) (hlink : Cond.methodLink mi.1.cls idx mi'.1 ∈ lw_tb) (hE : Wr mi' d' (.ref b :: [x0, x1, x2, x3]) w Q) (hb : w b = some (ob ci fs)) (hdd : d' + 1 ≤ d) (hst : (stk.map fun v => v.category).sum ≤ 8) (hmc : cells ≤ mc) (hms : slots ≤ ms) (k : ∀ r w', Q r w' → V mi d mc ms Po w' sz cells slots L (r.toList ++ stk) (pc + 3)) : V mi d mc ms Po (w) (sz) (cells) (slots) L (x3 :: x2 :: x1 :: x0 :: .ref b :: stk) (pc) :=
  v_callVg (As := [x0, x1, x2, x3]) hco hd hlink (hE sz) hb rfl hdd hst hmc hms (fun r w' _ h => by obtain ⟨rfl, hq⟩ := h; exact k r w' hq)
theorem v_rV5 {b : Nat} {x0 x1 x2 x3 x4 : Value} {fs : List Value} {r : Option Value} (hco : MV mi' 5 ci) (hd : decode mi.2.1 pc = .ok (.invokevirtual idx, 3)) (hlink : Cond.methodLink mi.1.cls idx mi'.1 ∈ lw_tb) (hE : Rd mi' d' (.ref b :: [x0, x1, x2, x3, x4]) w r) (hb : w b = some (ob ci fs)) (hdd : d' + 1 ≤ d) (hst : (stk.map fun v => v.category).sum ≤ 8) (hmc : cells ≤ mc) (hms : slots ≤ ms) (k : V mi d mc ms Po (w) (sz) (cells) (slots) L (r.toList ++ stk) (pc + 3)) : V mi d mc ms Po (w) (sz) (cells) (slots) L (x4 :: x3 :: x2 :: x1 :: x0 :: .ref b :: stk) (pc) :=
  v_callVg (As := [x0, x1, x2, x3, x4]) hco hd hlink (hE sz) hb rfl hdd hst hmc hms (fun _ _ _ h => by obtain ⟨rfl, rfl, rfl⟩ := h; exact k)
theorem v_wV5 {b : Nat} {x0 x1 x2 x3 x4 : Value} {fs : List Value} {Q : Option Value → Wd → Prop} (hco : MV mi' 5 ci) (hd : decode mi.2.1 pc = .ok (.invokevirtual idx, 3)) (hlink : Cond.methodLink mi.1.cls idx mi'.1 ∈ lw_tb) (hE : Wr mi' d' (.ref b :: [x0, x1, x2, x3, x4]) w Q) (hb : w b = some (ob ci fs)) (hdd : d' + 1 ≤ d) (hst : (stk.map fun v => v.category).sum ≤ 8) (hmc : cells ≤ mc) (hms : slots ≤ ms) (k : ∀ r w', Q r w' → V mi d mc ms Po w' sz cells slots L (r.toList ++ stk) (pc + 3)) : V mi d mc ms Po (w) (sz) (cells) (slots) L (x4 :: x3 :: x2 :: x1 :: x0 :: .ref b :: stk) (pc) :=
  v_callVg (As := [x0, x1, x2, x3, x4]) hco hd hlink (hE sz) hb rfl hdd hst hmc hms (fun r w' _ h => by obtain ⟨rfl, hq⟩ := h; exact k r w' hq)
theorem v_rV6 {b : Nat} {x0 x1 x2 x3 x4 x5 : Value} {fs : List Value} {r : Option Value} (hco : MV mi' 6 ci) (hd : decode mi.2.1 pc = .ok (.invokevirtual idx, 3)) (hlink : Cond.methodLink mi.1.cls idx mi'.1 ∈ lw_tb) (hE : Rd mi' d' (.ref b :: [x0, x1, x2, x3, x4, x5]) w r) (hb : w b = some (ob ci fs)) (hdd : d' + 1 ≤ d) (hst : (stk.map fun v => v.category).sum ≤ 8) (hmc : cells ≤ mc) (hms : slots ≤ ms) (k : V mi d mc ms Po (w) (sz) (cells) (slots) L (r.toList ++ stk) (pc + 3)) : V mi d mc ms Po (w) (sz) (cells) (slots) L (x5 :: x4 :: x3 :: x2 :: x1 :: x0 :: .ref b :: stk) (pc) :=
  v_callVg (As := [x0, x1, x2, x3, x4, x5]) hco hd hlink (hE sz) hb rfl hdd hst hmc hms (fun _ _ _ h => by obtain ⟨rfl, rfl, rfl⟩ := h; exact k)
end VCALL
