/-! ===== the words, all good ones ===== -/
def lw_tb : List Cond := lw_tbl.filter goodWord
theorem in_tb {w : Cond} (h : w ∈ lw_tbl) (g : goodWord w = true) : w ∈ lw_tb := List.mem_filter.mpr ⟨h, g⟩
theorem tb_in {w : Cond} (h : w ∈ lw_tb) : w ∈ lw_tbl ∧ goodWord w = true := List.mem_filter.mp h
/-! ===== worlds as functions from addresses to cells ===== -/
abbrev Cl : Type := (Nat × List Value) ⊕ ((Nat × Nat × (Nat → Int32)) ⊕ (Nat × Nat × (Nat → Option Nat)))
abbrev Wd : Type := Nat → Option Cl
abbrev ob (k : Nat) (fs : List Value) : Cl := .inl (k, fs)
abbrev ia (t n : Nat) (f : Nat → Int32) : Cl := .inr (.inl (t, n, f))
abbrev ra (t n : Nat) (f : Nat → Option Nat) : Cl := .inr (.inr (t, n, f))
def cE (cy : Nat → ClassId) (x : Cl) : va_E := match x with
  | .inl q => .inr q
  | .inr (.inl q) => .inl (cy q.1, q.2.1, .inl q.2.2)
  | .inr (.inr q) => .inl (cy q.1, q.2.1, .inr (.inr (.inr (.inr q.2.2))))
def tyA (t : Nat) : FieldType := match t with
  | 0 => .char
  | 1 => .int
  | 2 => .object "VotedLabels$Label"
  | 3 => .object "VotedLabels$Rewrite"
  | _ => .object "VotedLabels$State"
def tys5 (cy : Nat → ClassId) : List (ClassId × FieldType) := [(cy 0, tyA 0), (cy 1, tyA 1), (cy 2, tyA 2), (cy 3, tyA 3), (cy 4, tyA 4)]
def hW (D : va_G) (cy : Nat → ClassId) (lo : Nat) (w : Wd) (H : Heap) : Prop := ∀ (q : Nat) (x : Cl), w q = some x → lo ≤ q ∧ va_at D vwCl (q, cE cy x) H
def wu (w : Wd) (a : Nat) (x : Cl) : Wd := fun q => if q = a then some x else w q
theorem wu_eq (w : Wd) (a : Nat) (x : Cl) : wu w a x a = some x := by simp [wu]
theorem wu_ne (w : Wd) {a q : Nat} (x : Cl) (h : q ≠ a) : wu w a x q = w q := by simp [wu, h]
theorem hW.put {D : va_G} {cy : Nat → ClassId} {lo a : Nat} {w : Wd} {x : Cl} {H H1 : Heap} (h : hW D cy lo w H) (ha : lo ≤ a) (he : va_at D vwCl (a, cE cy x) H1) (oq : ∀ q, q ≠ a → H1[q]? = H[q]?) : hW D cy lo (wu w a x) H1 := by
  intro q x' hq
  by_cases e : q = a
  · subst e
    rw [wu_eq] at hq
    cases hq
    exact ⟨ha, he⟩
  · rw [wu_ne w x e] at hq
    exact ⟨(h q x' hq).1, (h q x' hq).2.kept (oq q e)⟩
theorem hW.lt {D : va_G} {cy : Nat → ClassId} {lo q : Nat} {w : Wd} {x : Cl} {H : Heap} (h : hW D cy lo w H) (hq : w q = some x) : q < H.size := (h q x hq).2.lt
theorem hW.pu {D : va_G} {cy : Nat → ClassId} {lo : Nat} {w : Wd} {x : Cl} {H H1 : Heap} (h : hW D cy lo w H) (ha : lo ≤ H.size) (he : va_at D vwCl (H.size, cE cy x) H1) (oq : ∀ q, q < H.size → H1[q]? = H[q]?) : hW D cy lo (wu w H.size x) H1 := by
  intro q x' hq
  by_cases e : q = H.size
  · subst e
    rw [wu_eq] at hq
    cases hq
    exact ⟨ha, he⟩
  · rw [wu_ne w x e] at hq
    exact ⟨(h q x' hq).1, (h q x' hq).2.kept (oq q (h.lt hq))⟩
theorem hW.P {D : va_G} {cy : Nat → ClassId} {lo q : Nat} {w : Wd} {x : Cl} {H : Heap} (h : hW D cy lo w H) (hq : w q = some x) : va_P D vwCl [(q, cE cy x)] H := by
  intro k z hz
  cases k with
  | zero => cases hz; exact (h q x hq).2
  | succ k => simp at hz
/-! ===== locals, by a list with a place for each ===== -/
def lk : List (Option Value) → Nat → Option Value
  | [], _ => none
  | a :: _, 0 => a
  | _ :: l, k + 1 => lk l k
def st : List (Option Value) → Nat → Value → List (Option Value)
  | [], _, _ => []
  | _ :: l, 0, v => some v :: l
  | a :: l, k + 1, v => a :: st l k v
def ent : Nat → List (Option Value) → List (Nat × Value)
  | _, [] => []
  | n, none :: l => ent (n + 1) l
  | n, some v :: l => (n, v) :: ent (n + 1) l
def cat1 : List (Option Value) → Bool
  | [] => true
  | none :: l => cat1 l
  | some v :: l => (v.category == 1) && cat1 l
theorem ent_mem : ∀ (L : List (Option Value)) (n k : Nat) (v : Value), (k, v) ∈ ent n L ↔ ∃ j, k = n + j ∧ lk L j = some v
  | [], n, k, v => by simp [ent, lk]
  | none :: l, n, k, v => by
    rw [ent, ent_mem l (n + 1) k v]
    constructor
    · rintro ⟨j, h1, h2⟩; exact ⟨j + 1, by omega, h2⟩
    · rintro ⟨j, h1, h2⟩
      cases j with
      | zero => simp [lk] at h2
      | succ j => exact ⟨j, by omega, h2⟩
  | some u :: l, n, k, v => by
    rw [ent, List.mem_cons, ent_mem l (n + 1) k v]
    constructor
    · rintro (h | ⟨j, h1, h2⟩)
      · cases h; exact ⟨0, rfl, rfl⟩
      · exact ⟨j + 1, by omega, h2⟩
    · rintro ⟨j, h1, h2⟩
      cases j with
      | zero => simp [lk] at h2; subst h2; exact Or.inl (by rw [h1]; rfl)
      | succ j => exact Or.inr ⟨j, by omega, h2⟩
theorem lk_st : ∀ (L : List (Option Value)) (i : Nat) (x : Value) (j : Nat) (u : Value), lk (st L i x) j = some u → (j = i ∧ u = x) ∨ (j ≠ i ∧ lk L j = some u)
  | [], i, x, j, u, h => by simp [st, lk] at h
  | a :: l, 0, x, j, u, h => by
    cases j with
    | zero => simp [st, lk] at h; exact Or.inl ⟨rfl, h.symm⟩
    | succ j => exact Or.inr ⟨by omega, h⟩
  | a :: l, i + 1, x, j, u, h => by
    cases j with
    | zero => exact Or.inr ⟨by omega, h⟩
    | succ j =>
      rcases lk_st l i x j u h with ⟨h1, h2⟩ | ⟨h1, h2⟩
      · exact Or.inl ⟨by omega, h2⟩
      · exact Or.inr ⟨by omega, h2⟩
theorem st_len : ∀ (L : List (Option Value)) (i : Nat) (x : Value), (st L i x).length = L.length
  | [], _, _ => rfl
  | _ :: _, 0, _ => rfl
  | _ :: l, i + 1, x => by simp [st, st_len l i x]
theorem cat1_lk : ∀ (L : List (Option Value)), cat1 L = true → ∀ k v, lk L k = some v → v.category = 1
  | [], _, k, v, h => by simp [lk] at h
  | none :: l, hc, k, v, h => by
    cases k with
    | zero => simp [lk] at h
    | succ k => exact cat1_lk l hc k v h
  | some u :: l, hc, k, v, h => by
    simp only [cat1, Bool.and_eq_true, beq_iff_eq] at hc
    cases k with
    | zero => simp [lk] at h; rw [← h]; exact hc.1
    | succ k => exact cat1_lk l hc.2 k v h
def lvs (ls : Array Slot) (nL : Nat) (L : List (Option Value)) : Prop := lv_has ls nL (ent 0 L) ∧ L.length = nL ∧ ∀ k v, lk L k = some v → v.category = 1
theorem lvs.at {ls : Array Slot} {nL k : Nat} {L : List (Option Value)} {v : Value} (h : lvs ls nL L) (hk : lk L k = some v) : ls[k]? = some (.val v) := h.1.2.2 (k, v) ((ent_mem L 0 k v).mpr ⟨k, by omega, hk⟩)
theorem lvs.mem {ls : Array Slot} {nL k : Nat} {L : List (Option Value)} {v : Value} (h : lvs ls nL L) (hk : lk L k = some v) : ∃ j : Nat, (ent 0 L)[j]? = some (k, v) := List.getElem?_of_mem ((ent_mem L 0 k v).mpr ⟨k, by omega, hk⟩)
theorem lvs.st {ls ls' : Array Slot} {nL i : Nat} {L : List (Option Value)} {x : Value} (h : lvs ls nL L) (hc : x.category = 1) (h' : lv_has ls' nL ((i, x) :: (ent 0 L).filter (fun q => !(q.1 == i) && !(q.1 + 1 == i && q.2.category == 2)))) : lvs ls' nL (st L i x) := by
  refine ⟨⟨h'.1, h'.2.1, fun q hq => h'.2.2 q ?_⟩, by rw [st_len]; exact h.2.1, fun k v hk => ?_⟩
  · obtain ⟨j, h1, h2⟩ := (ent_mem _ 0 q.1 q.2).mp hq
    rcases lk_st L i x j q.2 h2 with ⟨h3, h4⟩ | ⟨h3, h4⟩
    · exact List.mem_cons.mpr (Or.inl (Prod.ext (by rw [h1, h3]; omega) h4))
    · refine List.mem_cons.mpr (Or.inr (List.mem_filter.mpr ⟨(ent_mem L 0 q.1 q.2).mpr ⟨j, h1, h4⟩, ?_⟩))
      have h5 := h.2.2 j q.2 h4
      simp [h5]
      omega
  · rcases lk_st L i x k v hk with ⟨-, h4⟩ | ⟨-, h4⟩
    · rw [h4]; exact hc
    · exact h.2.2 k v h4

/-! ===== methods, contracts, the judgement ===== -/
abbrev MI : Type := MethodName × ByteArray × Nat × Option FieldType
def miW (mi : MI) : Cond := Cond.code mi.1 mi.2.1 mi.2.2.1 mi.2.2.2
def miWs (mi : MI) : List Cond := Cond.code mi.1 mi.2.1 mi.2.2.1 mi.2.2.2 :: lw_tb
def rmd (d mc ms : Nat) : Room := { frames := d, cells := mc, slots := ms, locals := 36 * d }
def nests : List (String × Nat × MethodName × String) := [("VotedLabels", 11, ⟨"VotedLabels$Text", "<init>", "()V"⟩, "VotedLabels"), ("VotedLabels", 18, ⟨"VotedLabels$Words", "<init>", "()V"⟩, "VotedLabels"), ("VotedLabels$Rewrites", 17, ⟨"VotedLabels$Rewrite", "<init>", "()V"⟩, "VotedLabels"), ("VotedLabels$Rewrite", 9, ⟨"VotedLabels$Words", "<init>", "()V"⟩, "VotedLabels"), ("VotedLabels$State", 47, ⟨"VotedLabels$Label", "<init>", "()V"⟩, "VotedLabels"), ("VotedLabels$Label", 11, ⟨"VotedLabels$Words", "<init>", "()V"⟩, "VotedLabels"), ("VotedLabels$State", 80, ⟨"VotedLabels", "placeOf", "(II)I"⟩, "VotedLabels")]
/-- what the tables say that is no good word, and the classes -/
def KK (D : va_G) (cy : Nat → ClassId) (U : State) : Prop := va_K D vwCl (tys5 cy) U ∧ (∀ q ∈ nests, va_Nw (.methodLinkNest q.1 q.2.1 q.2.2.1 q.2.2.2) U) ∧ va_AO "VotedLabels$Label" U ∧ va_AO "VotedLabels$Rewrite" U ∧ va_AO "VotedLabels$State" U
theorem KK.warm {D : va_G} {cy : Nat → ClassId} {s U : State} (h : KK D cy s) (hW : s.WarmedH U.vm) : KK D cy U := ⟨va_K.moved hW.alike h.1, fun q hq => va_Nw.warmM hW (h.2.1 q hq), va_AO.moved hW.alike h.2.2.1, va_AO.moved hW.alike h.2.2.2.1, va_AO.moved hW.alike h.2.2.2.2⟩
theorem KK.same {D : va_G} {cy : Nat → ClassId} {s U : State} (h : KK D cy s) (e : s.vm = U.vm) : KK D cy U := ⟨va_K.moved (by rw [e]; exact Vm.Alike.refl U.vm) h.1, fun q hq => va_Nw.same rfl e (h.2.1 q hq), va_AO.moved (by rw [e]; exact Vm.Alike.refl U.vm) h.2.2.1, va_AO.moved (by rw [e]; exact Vm.Alike.refl U.vm) h.2.2.2.1, va_AO.moved (by rw [e]; exact Vm.Alike.refl U.vm) h.2.2.2.2⟩
def Qd (Po : Option Value → Wd → Nat → Prop) (D : va_G) (cy : Nat → ClassId) (lo : Nat) : Array Value → State → Outcome → State → Prop := fun _ s oc t =>
  ∃ (r : Option Value) (w' : Wd), oc = .returned r ∧ hW D cy lo w' t.heap ∧ Po r w' t.heap.size ∧ va_F (fun q => lo ≤ q) s t
/-- METHOD mi, called with av in the world w (heap of sz cells): returns r in a world w' of sz' cells with Po r w' sz' -/
def Ev (mi : MI) (d : Nat) (av : List Value) (w : Wd) (sz mc ms : Nat) (Po : Option Value → Wd → Nat → Prop) : Prop :=
  ∀ (l : Launch) (lo : Nat) (D : va_G) (cy : Nat → ClassId), Met l mi.1 (miWs mi) (rmd d mc ms) (va_Pc av (fun U => U.heap.size = sz ∧ lo ≤ sz ∧ hW D cy lo w U.heap ∧ KK D cy U)) (Qd Po D cy lo) mc ms (fun q => lo ≤ q)
def Cx (p : Program) (s : State) (m : MethodId) (args : Array Value) (meth : Method) (c : Code) (mi : MI) (D : va_G) (cy : Nat → ClassId) (lo : Nat) : Prop :=
  p.tables.exec = Jvm.exec ∧ c.code = mi.2.1 ∧ meth.sig.returnType = mi.2.2.2 ∧ c.maxLocals = mi.2.2.1 ∧ s.vm.findClass mi.1.cls = some m.cls ∧ (∀ w ∈ miWs mi, w.before args s = true) ∧ meth.locks = false ∧ KK D cy s ∧ lo ≤ s.heap.size ∧ meth.name = mi.1.name
/-- from pc, with the locals L and the stack stk, in the world w, the method comes to its end with Po -/
def V (mi : MI) (d mc ms : Nat) (Po : Option Value → Wd → Nat → Prop) (w : Wd) (sz cells slots : Nat) (L : List (Option Value)) (stk : List Value) (pc : Nat) : Prop :=
  ∀ (p : Program) (l : Launch) (e : Env) (s : State) (m : MethodId) (args : Array Value) (below : List Frame) (meth : Method) (c : Code) (lo : Nat) (D : va_G) (cy : Nat → ClassId) (H : Heap) (locs : List Loc) (ls : Array Slot),
    Cx p s m args meth c mi D cy lo → hW D cy lo w H → H.size = sz → va_S (fun q => lo ≤ q) s.heap H locs → lvs ls mi.2.2.1 L →
    W p l e (rmd d mc ms) s m args below meth c H locs cells slots (MQ below (Qd Po D cy lo) args s mc ms (fun q => lo ≤ q)) (F0 m pc ls stk)
theorem Ev.mono {mi : MI} {d : Nat} {av : List Value} {w : Wd} {sz mc ms : Nat} {Po Po' : Option Value → Wd → Nat → Prop} (h : Ev mi d av w sz mc ms Po) (k : ∀ r w' z, Po r w' z → Po' r w' z) : Ev mi d av w sz mc ms Po' := by
  intro l lo D cy p e a1 a2 a3 s m args below a4 a5 a6 a7
  obtain ⟨t, o, b1, b2, b3, ⟨r, w', c1, c2, c3, c4⟩, b5⟩ := h l lo D cy p e a1 a2 a3 s m args below a4 a5 a6 a7
  exact ⟨t, o, b1, b2, b3, ⟨r, w', c1, c2, k _ _ _ c3, c4⟩, b5⟩
set_option maxHeartbeats 1000000 in
theorem Ev.ofV {mi : MI} {d : Nat} {av : List Value} {w : Wd} {sz mc ms : Nat} {Po : Option Value → Wd → Nat → Prop} (L : List (Option Value)) (hy : plainName mi.1.cls = true) (hn : (lg_sl av).length ≤ mi.2.2.1) (hL : ent 0 L = lv_args 0 av) (hlen : L.length = mi.2.2.1) (hcat : cat1 L = true) (h : V mi d mc ms Po w sz 0 0 L [] 0) : Ev mi d av w sz mc ms Po := by
  intro l lo D cy
  refine Met.ofW (cc := mi.2.1) (maxL := mi.2.2.1) (ret := mi.2.2.2) (ws' := lw_tb) hy rfl ?_
  intro p e s m args below meth c s₁ B hml hv
  obtain ⟨rfl, hsz, hlo, hw, hK⟩ := hv
  have hts := atoms_spec (ws := miWs mi) B.pre
  have hl := lv_entry av hn
  rw [lg_entry_eq]
  exact h p l e s m av.toArray below meth c lo D cy s.heap [] _ ⟨B.exec, B.bytes, B.returns, hml, findClass_of_methodNamed B.named, hts, B.notSynchronized, hK, by rw [hsz]; exact hlo, (name_of_methodNamed B.named B.method).1⟩ hw hsz va_S.rf ⟨by rw [hL]; exact hl, hlen, cat1_lk L hcat⟩
section VR
variable {mi : MI} {d mc ms : Nat} {Po : Option Value → Wd → Nat → Prop} {w : Wd} {sz cells slots : Nat} {L : List (Option Value)} {stk : List Value} {pc : Nat}
theorem v_eqs {stk' : List Value} (h : stk' = stk) (k : V mi d mc ms Po w sz cells slots L stk' pc) : V mi d mc ms Po w sz cells slots L stk pc := h ▸ k
theorem v_eqL {L' : List (Option Value)} (h : L' = L) (k : V mi d mc ms Po w sz cells slots L' stk pc) : V mi d mc ms Po w sz cells slots L stk pc := h ▸ k
theorem v_eqw {w' : Wd} (h : w' = w) (k : V mi d mc ms Po w' sz cells slots L stk pc) : V mi d mc ms Po w sz cells slots L stk pc := h ▸ k

theorem v_iload_n {i : Fin 4} {x : Int32} (hd : decode mi.2.1 pc = .ok (.iload_n i, 1)) (hl0 : lk L i = some (.int x)) (k : V mi d mc ms Po w sz cells slots L (.int x :: stk) (pc + 1)) : V mi d mc ms Po w sz cells slots L (stk) (pc) := by
  intro p l e s m args below meth c lo D cy H locs ls C hw hz hS hl
  exact lv_iload_n C.1 C.2.1 hd rfl (hl.at hl0) (k p l e s m args below meth c lo D cy H locs ls C hw hz hS hl)
theorem v_iload {i : Nat} {x : Int32} (hd : decode mi.2.1 pc = .ok (.iload i, 2)) (hl0 : lk L i = some (.int x)) (k : V mi d mc ms Po w sz cells slots L (.int x :: stk) (pc + 2)) : V mi d mc ms Po w sz cells slots L (stk) (pc) := by
  intro p l e s m args below meth c lo D cy H locs ls C hw hz hS hl
  exact lv_iload C.1 C.2.1 hd (hl.at hl0) (k p l e s m args below meth c lo D cy H locs ls C hw hz hS hl)
theorem v_aload_n {i : Fin 4} {x : Nat} (hd : decode mi.2.1 pc = .ok (.aload_n i, 1)) (hl0 : lk L i = some (.ref x)) (k : V mi d mc ms Po w sz cells slots L (.ref x :: stk) (pc + 1)) : V mi d mc ms Po w sz cells slots L (stk) (pc) := by
  intro p l e s m args below meth c lo D cy H locs ls C hw hz hS hl
  exact lv_aload_n C.1 C.2.1 hd rfl (hl.at hl0) (k p l e s m args below meth c lo D cy H locs ls C hw hz hS hl)
theorem v_aload {i : Nat} {x : Nat} (hd : decode mi.2.1 pc = .ok (.aload i, 2)) (hl0 : lk L i = some (.ref x)) (k : V mi d mc ms Po w sz cells slots L (.ref x :: stk) (pc + 2)) : V mi d mc ms Po w sz cells slots L (stk) (pc) := by
  intro p l e s m args below meth c lo D cy H locs ls C hw hz hS hl
  exact lv_aload C.1 C.2.1 hd (hl.at hl0) (k p l e s m args below meth c lo D cy H locs ls C hw hz hS hl)
theorem v_aload_nN {i : Fin 4} (hd : decode mi.2.1 pc = .ok (.aload_n i, 1)) (hl0 : lk L i = some .null) (k : V mi d mc ms Po w sz cells slots L (.null :: stk) (pc + 1)) : V mi d mc ms Po w sz cells slots L (stk) (pc) := by
  intro p l e s m args below meth c lo D cy H locs ls C hw hz hS hl
  exact lv_aload_nN C.1 C.2.1 hd rfl (hl.at hl0) (k p l e s m args below meth c lo D cy H locs ls C hw hz hS hl)
theorem v_aloadN {i : Nat} (hd : decode mi.2.1 pc = .ok (.aload i, 2)) (hl0 : lk L i = some .null) (k : V mi d mc ms Po w sz cells slots L (.null :: stk) (pc + 2)) : V mi d mc ms Po w sz cells slots L (stk) (pc) := by
  intro p l e s m args below meth c lo D cy H locs ls C hw hz hS hl
  exact lv_aloadN C.1 C.2.1 hd (hl.at hl0) (k p l e s m args below meth c lo D cy H locs ls C hw hz hS hl)
theorem v_istore_n {i : Fin 4} {x : Int32} {L' : List (Option Value)} (hd : decode mi.2.1 pc = .ok (.istore_n i, 1)) (hi : (i : Nat) < mi.2.2.1) (hL : st L i (.int x) = L') (k : V mi d mc ms Po w sz cells slots L' (stk) (pc + 1)) : V mi d mc ms Po w sz cells slots L (.int x :: stk) (pc) := by
  intro p l e s m args below meth c lo D cy H locs ls C hw hz hS hl
  refine lv_istore_n C.1 C.2.1 hd rfl hl.1 hi rfl (fun ls' h' => ?_)
  exact k p l e s m args below meth c lo D cy H locs ls' C hw hz hS (by rw [← hL]; exact hl.st rfl h')
theorem v_istore {i : Nat} {x : Int32} {L' : List (Option Value)} (hd : decode mi.2.1 pc = .ok (.istore i, 2)) (hi : (i : Nat) < mi.2.2.1) (hL : st L i (.int x) = L') (k : V mi d mc ms Po w sz cells slots L' (stk) (pc + 2)) : V mi d mc ms Po w sz cells slots L (.int x :: stk) (pc) := by
  intro p l e s m args below meth c lo D cy H locs ls C hw hz hS hl
  refine lv_istore C.1 C.2.1 hd hl.1 hi rfl (fun ls' h' => ?_)
  exact k p l e s m args below meth c lo D cy H locs ls' C hw hz hS (by rw [← hL]; exact hl.st rfl h')
theorem v_astore_n {i : Fin 4} {x : Nat} {L' : List (Option Value)} (hd : decode mi.2.1 pc = .ok (.astore_n i, 1)) (hi : (i : Nat) < mi.2.2.1) (hL : st L i (.ref x) = L') (k : V mi d mc ms Po w sz cells slots L' (stk) (pc + 1)) : V mi d mc ms Po w sz cells slots L (.ref x :: stk) (pc) := by
  intro p l e s m args below meth c lo D cy H locs ls C hw hz hS hl
  refine lv_astore_n C.1 C.2.1 hd rfl hl.1 hi rfl (fun ls' h' => ?_)
  exact k p l e s m args below meth c lo D cy H locs ls' C hw hz hS (by rw [← hL]; exact hl.st rfl h')
theorem v_astore {i : Nat} {x : Nat} {L' : List (Option Value)} (hd : decode mi.2.1 pc = .ok (.astore i, 2)) (hi : (i : Nat) < mi.2.2.1) (hL : st L i (.ref x) = L') (k : V mi d mc ms Po w sz cells slots L' (stk) (pc + 2)) : V mi d mc ms Po w sz cells slots L (.ref x :: stk) (pc) := by
  intro p l e s m args below meth c lo D cy H locs ls C hw hz hS hl
  refine lv_astore C.1 C.2.1 hd hl.1 hi rfl (fun ls' h' => ?_)
  exact k p l e s m args below meth c lo D cy H locs ls' C hw hz hS (by rw [← hL]; exact hl.st rfl h')
theorem v_astore_nN {i : Fin 4} {L' : List (Option Value)} (hd : decode mi.2.1 pc = .ok (.astore_n i, 1)) (hi : (i : Nat) < mi.2.2.1) (hL : st L i (.null) = L') (k : V mi d mc ms Po w sz cells slots L' (stk) (pc + 1)) : V mi d mc ms Po w sz cells slots L (.null :: stk) (pc) := by
  intro p l e s m args below meth c lo D cy H locs ls C hw hz hS hl
  refine lv_astore_nN C.1 C.2.1 hd rfl hl.1 hi rfl (fun ls' h' => ?_)
  exact k p l e s m args below meth c lo D cy H locs ls' C hw hz hS (by rw [← hL]; exact hl.st rfl h')
theorem v_astoreN {i : Nat} {L' : List (Option Value)} (hd : decode mi.2.1 pc = .ok (.astore i, 2)) (hi : (i : Nat) < mi.2.2.1) (hL : st L i (.null) = L') (k : V mi d mc ms Po w sz cells slots L' (stk) (pc + 2)) : V mi d mc ms Po w sz cells slots L (.null :: stk) (pc) := by
  intro p l e s m args below meth c lo D cy H locs ls C hw hz hS hl
  refine lv_astoreN C.1 C.2.1 hd hl.1 hi rfl (fun ls' h' => ?_)
  exact k p l e s m args below meth c lo D cy H locs ls' C hw hz hS (by rw [← hL]; exact hl.st rfl h')
theorem v_iinc {i : Nat} {n : Int} {x y : Int32} {L' : List (Option Value)} (hd : decode mi.2.1 pc = .ok (.iinc i n, 3)) (hi : i < mi.2.2.1) (hl0 : lk L i = some (.int x)) (hy : x + Int32.ofInt n = y) (hL : st L i (.int y) = L') (k : V mi d mc ms Po w sz cells slots L' (stk) (pc + 3)) : V mi d mc ms Po w sz cells slots L (stk) (pc) := by
  intro p l e s m args below meth c lo D cy H locs ls C hw hz hS hl
  obtain ⟨j, hj⟩ := hl.mem hl0
  refine lv_iinc C.1 C.2.1 hd hl.1 hj hy hi rfl (fun ls' h' => ?_)
  exact k p l e s m args below meth c lo D cy H locs ls' C hw hz hS (by rw [← hL]; exact hl.st rfl h')
theorem v_iconst {n : Int} {v : Int32} (hd : decode mi.2.1 pc = .ok (.iconst n, 1)) (hv : Int32.ofInt n = v) (k : V mi d mc ms Po w sz cells slots L (.int v :: stk) (pc + 1)) : V mi d mc ms Po w sz cells slots L (stk) (pc) := by
  intro p l e s m args below meth c lo D cy H locs ls C hw hz hS hl
  exact lv_iconst C.1 C.2.1 hd hv (k p l e s m args below meth c lo D cy H locs ls C hw hz hS hl)
theorem v_bipush {n : Int} {v : Int32} (hd : decode mi.2.1 pc = .ok (.bipush n, 2)) (hv : (Int8.ofInt n).toInt32 = v) (k : V mi d mc ms Po w sz cells slots L (.int v :: stk) (pc + 2)) : V mi d mc ms Po w sz cells slots L (stk) (pc) := by
  intro p l e s m args below meth c lo D cy H locs ls C hw hz hS hl
  exact lv_bipush C.1 C.2.1 hd hv (k p l e s m args below meth c lo D cy H locs ls C hw hz hS hl)
theorem v_sipush {n : Int} {v : Int32} (hd : decode mi.2.1 pc = .ok (.sipush n, 3)) (hv : (Int16.ofInt n).toInt32 = v) (k : V mi d mc ms Po w sz cells slots L (.int v :: stk) (pc + 3)) : V mi d mc ms Po w sz cells slots L (stk) (pc) := by
  intro p l e s m args below meth c lo D cy H locs ls C hw hz hS hl
  exact lv_sipush C.1 C.2.1 hd hv (k p l e s m args below meth c lo D cy H locs ls C hw hz hS hl)
theorem v_null  (hd : decode mi.2.1 pc = .ok (.aconst_null, 1))  (k : V mi d mc ms Po w sz cells slots L (.null :: stk) (pc + 1)) : V mi d mc ms Po w sz cells slots L (stk) (pc) := by
  intro p l e s m args below meth c lo D cy H locs ls C hw hz hS hl
  exact lv_null C.1 C.2.1 hd  (k p l e s m args below meth c lo D cy H locs ls C hw hz hS hl)
theorem v_ldc {idx : Nat} {v : Int32} (hd : decode mi.2.1 pc = .ok (.ldc idx, 2)) (hc : Cond.constant mi.1.cls idx v ∈ lw_tb) (k : V mi d mc ms Po w sz cells slots L (.int v :: stk) (pc + 2)) : V mi d mc ms Po w sz cells slots L (stk) (pc) := by
  intro p l e s m args below meth c lo D cy H locs ls C hw hz hS hl
  exact lv_ldc C.1 C.2.1 C.2.2.2.2.1 (C.2.2.2.2.2.1 _ (List.mem_cons_of_mem _ hc)) hd (k p l e s m args below meth c lo D cy H locs ls C hw hz hS hl)
theorem v_iadd {x y : Int32} (hd : decode mi.2.1 pc = .ok (.iadd, 1))  (k : V mi d mc ms Po w sz cells slots L (.int (x + y) :: stk) (pc + 1)) : V mi d mc ms Po w sz cells slots L (.int y :: .int x :: stk) (pc) := by
  intro p l e s m args below meth c lo D cy H locs ls C hw hz hS hl
  exact lv_iadd C.1 C.2.1 hd  (k p l e s m args below meth c lo D cy H locs ls C hw hz hS hl)
theorem v_isub {x y : Int32} (hd : decode mi.2.1 pc = .ok (.isub, 1))  (k : V mi d mc ms Po w sz cells slots L (.int (x - y) :: stk) (pc + 1)) : V mi d mc ms Po w sz cells slots L (.int y :: .int x :: stk) (pc) := by
  intro p l e s m args below meth c lo D cy H locs ls C hw hz hS hl
  exact lv_isub C.1 C.2.1 hd  (k p l e s m args below meth c lo D cy H locs ls C hw hz hS hl)
theorem v_imul {x y : Int32} (hd : decode mi.2.1 pc = .ok (.imul, 1))  (k : V mi d mc ms Po w sz cells slots L (.int (x * y) :: stk) (pc + 1)) : V mi d mc ms Po w sz cells slots L (.int y :: .int x :: stk) (pc) := by
  intro p l e s m args below meth c lo D cy H locs ls C hw hz hS hl
  exact lv_imul C.1 C.2.1 hd  (k p l e s m args below meth c lo D cy H locs ls C hw hz hS hl)
theorem v_iand {x y : Int32} (hd : decode mi.2.1 pc = .ok (.iand, 1))  (k : V mi d mc ms Po w sz cells slots L (.int (x &&& y) :: stk) (pc + 1)) : V mi d mc ms Po w sz cells slots L (.int y :: .int x :: stk) (pc) := by
  intro p l e s m args below meth c lo D cy H locs ls C hw hz hS hl
  exact lv_iand C.1 C.2.1 hd  (k p l e s m args below meth c lo D cy H locs ls C hw hz hS hl)
theorem v_ior {x y : Int32} (hd : decode mi.2.1 pc = .ok (.ior, 1))  (k : V mi d mc ms Po w sz cells slots L (.int (x ||| y) :: stk) (pc + 1)) : V mi d mc ms Po w sz cells slots L (.int y :: .int x :: stk) (pc) := by
  intro p l e s m args below meth c lo D cy H locs ls C hw hz hS hl
  exact lv_ior C.1 C.2.1 hd  (k p l e s m args below meth c lo D cy H locs ls C hw hz hS hl)
theorem v_ixor {x y : Int32} (hd : decode mi.2.1 pc = .ok (.ixor, 1))  (k : V mi d mc ms Po w sz cells slots L (.int (x ^^^ y) :: stk) (pc + 1)) : V mi d mc ms Po w sz cells slots L (.int y :: .int x :: stk) (pc) := by
  intro p l e s m args below meth c lo D cy H locs ls C hw hz hS hl
  exact lv_ixor C.1 C.2.1 hd  (k p l e s m args below meth c lo D cy H locs ls C hw hz hS hl)
theorem v_ishl {x y : Int32} (hd : decode mi.2.1 pc = .ok (.ishl, 1))  (k : V mi d mc ms Po w sz cells slots L (.int (x <<< (y &&& 31)) :: stk) (pc + 1)) : V mi d mc ms Po w sz cells slots L (.int y :: .int x :: stk) (pc) := by
  intro p l e s m args below meth c lo D cy H locs ls C hw hz hS hl
  exact lv_ishl C.1 C.2.1 hd  (k p l e s m args below meth c lo D cy H locs ls C hw hz hS hl)
theorem v_ishr {x y : Int32} (hd : decode mi.2.1 pc = .ok (.ishr, 1))  (k : V mi d mc ms Po w sz cells slots L (.int (x >>> (y &&& 31)) :: stk) (pc + 1)) : V mi d mc ms Po w sz cells slots L (.int y :: .int x :: stk) (pc) := by
  intro p l e s m args below meth c lo D cy H locs ls C hw hz hS hl
  exact lv_ishr C.1 C.2.1 hd  (k p l e s m args below meth c lo D cy H locs ls C hw hz hS hl)
theorem v_iushr {x y v : Int32} (hd : decode mi.2.1 pc = .ok (.iushr, 1)) (hv : (x.toUInt32 >>> (y.toUInt32 &&& Int32.toUInt32 31)).toInt32 = v) (k : V mi d mc ms Po w sz cells slots L (.int v :: stk) (pc + 1)) : V mi d mc ms Po w sz cells slots L (.int y :: .int x :: stk) (pc) := by
  intro p l e s m args below meth c lo D cy H locs ls C hw hz hS hl
  exact lv_iushr C.1 C.2.1 hd hv (k p l e s m args below meth c lo D cy H locs ls C hw hz hS hl)
theorem v_idiv {x y : Int32} (hd : decode mi.2.1 pc = .ok (.idiv, 1)) (hne : ¬ y = 0) (k : V mi d mc ms Po w sz cells slots L (.int (x / y) :: stk) (pc + 1)) : V mi d mc ms Po w sz cells slots L (.int y :: .int x :: stk) (pc) := by
  intro p l e s m args below meth c lo D cy H locs ls C hw hz hS hl
  exact lv_idiv C.1 C.2.1 hd hne (k p l e s m args below meth c lo D cy H locs ls C hw hz hS hl)
theorem v_irem {x y : Int32} (hd : decode mi.2.1 pc = .ok (.irem, 1)) (hne : ¬ y = 0) (k : V mi d mc ms Po w sz cells slots L (.int (x - x / y * y) :: stk) (pc + 1)) : V mi d mc ms Po w sz cells slots L (.int y :: .int x :: stk) (pc) := by
  intro p l e s m args below meth c lo D cy H locs ls C hw hz hS hl
  exact lv_irem C.1 C.2.1 hd hne (k p l e s m args below meth c lo D cy H locs ls C hw hz hS hl)
theorem v_i2c {x v : Int32} (hd : decode mi.2.1 pc = .ok (.i2c, 1)) (hv : (x.toUInt32 % 65536).toInt32 = v) (k : V mi d mc ms Po w sz cells slots L (.int v :: stk) (pc + 1)) : V mi d mc ms Po w sz cells slots L (.int x :: stk) (pc) := by
  intro p l e s m args below meth c lo D cy H locs ls C hw hz hS hl
  exact lv_i2c C.1 C.2.1 hd hv (k p l e s m args below meth c lo D cy H locs ls C hw hz hS hl)
theorem v_dup {va : Value} (hd : decode mi.2.1 pc = .ok (.dup, 1)) (hva : va.category = 1) (k : V mi d mc ms Po w sz cells slots L (va :: va :: stk) (pc + 1)) : V mi d mc ms Po w sz cells slots L (va :: stk) (pc) := by
  intro p l e s m args below meth c lo D cy H locs ls C hw hz hS hl
  exact lv_dup C.1 C.2.1 hd hva (k p l e s m args below meth c lo D cy H locs ls C hw hz hS hl)
theorem v_pop {va : Value} (hd : decode mi.2.1 pc = .ok (.pop, 1)) (hva : va.category = 1) (k : V mi d mc ms Po w sz cells slots L (stk) (pc + 1)) : V mi d mc ms Po w sz cells slots L (va :: stk) (pc) := by
  intro p l e s m args below meth c lo D cy H locs ls C hw hz hS hl
  exact lv_pop C.1 C.2.1 hd hva (k p l e s m args below meth c lo D cy H locs ls C hw hz hS hl)
theorem v_dup2 {va vb : Value} (hd : decode mi.2.1 pc = .ok (.dup2, 1)) (hva : va.category = 1) (hvb : vb.category = 1) (k : V mi d mc ms Po w sz cells slots L (va :: vb :: va :: vb :: stk) (pc + 1)) : V mi d mc ms Po w sz cells slots L (va :: vb :: stk) (pc) := by
  intro p l e s m args below meth c lo D cy H locs ls C hw hz hS hl
  exact lv_dup2_11 C.1 C.2.1 hd hva hvb (k p l e s m args below meth c lo D cy H locs ls C hw hz hS hl)
theorem v_dup_x1 {va vb : Value} (hd : decode mi.2.1 pc = .ok (.dup_x1, 1)) (hva : va.category = 1) (hvb : vb.category = 1) (k : V mi d mc ms Po w sz cells slots L (va :: vb :: va :: stk) (pc + 1)) : V mi d mc ms Po w sz cells slots L (va :: vb :: stk) (pc) := by
  intro p l e s m args below meth c lo D cy H locs ls C hw hz hS hl
  exact lv_dup_x1 C.1 C.2.1 hd hva hvb (k p l e s m args below meth c lo D cy H locs ls C hw hz hS hl)
theorem v_goto {off : Int} {tgt : Nat} (hd : decode mi.2.1 pc = .ok (.goto off, 3)) (ht : (pc : Int) + off = (tgt : Int)) (k : V mi d mc ms Po w sz cells slots L (stk) (tgt)) : V mi d mc ms Po w sz cells slots L (stk) (pc) := by
  intro p l e s m args below meth c lo D cy H locs ls C hw hz hS hl
  exact lv_goto C.1 C.2.1 hd ht (k p l e s m args below meth c lo D cy H locs ls C hw hz hS hl)
theorem v_icmp_eq {x y : Int32} {off : Int} {tgt : Nat} (hd : decode mi.2.1 pc = .ok (.if_icmp .eq off, 3)) (ht : (pc : Int) + off = (tgt : Int)) (kt : x = y → V mi d mc ms Po w sz cells slots L (stk) (tgt)) (kf : ¬ x = y → V mi d mc ms Po w sz cells slots L (stk) (pc + 3)) : V mi d mc ms Po w sz cells slots L (.int y :: .int x :: stk) (pc) := by
  intro p l e s m args below meth c lo D cy H locs ls C hw hz hS hl
  exact lv_icmp_eq C.1 C.2.1 hd ht (fun z => kt z p l e s m args below meth c lo D cy H locs ls C hw hz hS hl) (fun z => kf z p l e s m args below meth c lo D cy H locs ls C hw hz hS hl)
theorem v_icmp_ne {x y : Int32} {off : Int} {tgt : Nat} (hd : decode mi.2.1 pc = .ok (.if_icmp .ne off, 3)) (ht : (pc : Int) + off = (tgt : Int)) (kt : ¬ x = y → V mi d mc ms Po w sz cells slots L (stk) (tgt)) (kf : x = y → V mi d mc ms Po w sz cells slots L (stk) (pc + 3)) : V mi d mc ms Po w sz cells slots L (.int y :: .int x :: stk) (pc) := by
  intro p l e s m args below meth c lo D cy H locs ls C hw hz hS hl
  exact lv_icmp_ne C.1 C.2.1 hd ht (fun z => kt z p l e s m args below meth c lo D cy H locs ls C hw hz hS hl) (fun z => kf z p l e s m args below meth c lo D cy H locs ls C hw hz hS hl)
theorem v_icmp_lt {x y : Int32} {off : Int} {tgt : Nat} (hd : decode mi.2.1 pc = .ok (.if_icmp .lt off, 3)) (ht : (pc : Int) + off = (tgt : Int)) (kt : x < y → V mi d mc ms Po w sz cells slots L (stk) (tgt)) (kf : ¬ x < y → V mi d mc ms Po w sz cells slots L (stk) (pc + 3)) : V mi d mc ms Po w sz cells slots L (.int y :: .int x :: stk) (pc) := by
  intro p l e s m args below meth c lo D cy H locs ls C hw hz hS hl
  exact lv_icmp_lt C.1 C.2.1 hd ht (fun z => kt z p l e s m args below meth c lo D cy H locs ls C hw hz hS hl) (fun z => kf z p l e s m args below meth c lo D cy H locs ls C hw hz hS hl)
theorem v_icmp_ge {x y : Int32} {off : Int} {tgt : Nat} (hd : decode mi.2.1 pc = .ok (.if_icmp .ge off, 3)) (ht : (pc : Int) + off = (tgt : Int)) (kt : y ≤ x → V mi d mc ms Po w sz cells slots L (stk) (tgt)) (kf : ¬ y ≤ x → V mi d mc ms Po w sz cells slots L (stk) (pc + 3)) : V mi d mc ms Po w sz cells slots L (.int y :: .int x :: stk) (pc) := by
  intro p l e s m args below meth c lo D cy H locs ls C hw hz hS hl
  exact lv_icmp_ge C.1 C.2.1 hd ht (fun z => kt z p l e s m args below meth c lo D cy H locs ls C hw hz hS hl) (fun z => kf z p l e s m args below meth c lo D cy H locs ls C hw hz hS hl)
theorem v_icmp_gt {x y : Int32} {off : Int} {tgt : Nat} (hd : decode mi.2.1 pc = .ok (.if_icmp .gt off, 3)) (ht : (pc : Int) + off = (tgt : Int)) (kt : y < x → V mi d mc ms Po w sz cells slots L (stk) (tgt)) (kf : ¬ y < x → V mi d mc ms Po w sz cells slots L (stk) (pc + 3)) : V mi d mc ms Po w sz cells slots L (.int y :: .int x :: stk) (pc) := by
  intro p l e s m args below meth c lo D cy H locs ls C hw hz hS hl
  exact lv_icmp_gt C.1 C.2.1 hd ht (fun z => kt z p l e s m args below meth c lo D cy H locs ls C hw hz hS hl) (fun z => kf z p l e s m args below meth c lo D cy H locs ls C hw hz hS hl)
theorem v_icmp_le {x y : Int32} {off : Int} {tgt : Nat} (hd : decode mi.2.1 pc = .ok (.if_icmp .le off, 3)) (ht : (pc : Int) + off = (tgt : Int)) (kt : x ≤ y → V mi d mc ms Po w sz cells slots L (stk) (tgt)) (kf : ¬ x ≤ y → V mi d mc ms Po w sz cells slots L (stk) (pc + 3)) : V mi d mc ms Po w sz cells slots L (.int y :: .int x :: stk) (pc) := by
  intro p l e s m args below meth c lo D cy H locs ls C hw hz hS hl
  exact lv_icmp_le C.1 C.2.1 hd ht (fun z => kt z p l e s m args below meth c lo D cy H locs ls C hw hz hS hl) (fun z => kf z p l e s m args below meth c lo D cy H locs ls C hw hz hS hl)
theorem v_if_eq {x : Int32} {off : Int} {tgt : Nat} (hd : decode mi.2.1 pc = .ok (.ifCond .eq off, 3)) (ht : (pc : Int) + off = (tgt : Int)) (kt : x = 0 → V mi d mc ms Po w sz cells slots L (stk) (tgt)) (kf : ¬ x = 0 → V mi d mc ms Po w sz cells slots L (stk) (pc + 3)) : V mi d mc ms Po w sz cells slots L (.int x :: stk) (pc) := by
  intro p l e s m args below meth c lo D cy H locs ls C hw hz hS hl
  exact lv_if_eq C.1 C.2.1 hd ht (fun z => kt z p l e s m args below meth c lo D cy H locs ls C hw hz hS hl) (fun z => kf z p l e s m args below meth c lo D cy H locs ls C hw hz hS hl)
theorem v_if_ne {x : Int32} {off : Int} {tgt : Nat} (hd : decode mi.2.1 pc = .ok (.ifCond .ne off, 3)) (ht : (pc : Int) + off = (tgt : Int)) (kt : ¬ x = 0 → V mi d mc ms Po w sz cells slots L (stk) (tgt)) (kf : x = 0 → V mi d mc ms Po w sz cells slots L (stk) (pc + 3)) : V mi d mc ms Po w sz cells slots L (.int x :: stk) (pc) := by
  intro p l e s m args below meth c lo D cy H locs ls C hw hz hS hl
  exact lv_if_ne C.1 C.2.1 hd ht (fun z => kt z p l e s m args below meth c lo D cy H locs ls C hw hz hS hl) (fun z => kf z p l e s m args below meth c lo D cy H locs ls C hw hz hS hl)
theorem v_if_lt {x : Int32} {off : Int} {tgt : Nat} (hd : decode mi.2.1 pc = .ok (.ifCond .lt off, 3)) (ht : (pc : Int) + off = (tgt : Int)) (kt : x < 0 → V mi d mc ms Po w sz cells slots L (stk) (tgt)) (kf : ¬ x < 0 → V mi d mc ms Po w sz cells slots L (stk) (pc + 3)) : V mi d mc ms Po w sz cells slots L (.int x :: stk) (pc) := by
  intro p l e s m args below meth c lo D cy H locs ls C hw hz hS hl
  exact lv_if_lt C.1 C.2.1 hd ht (fun z => kt z p l e s m args below meth c lo D cy H locs ls C hw hz hS hl) (fun z => kf z p l e s m args below meth c lo D cy H locs ls C hw hz hS hl)
theorem v_if_ge {x : Int32} {off : Int} {tgt : Nat} (hd : decode mi.2.1 pc = .ok (.ifCond .ge off, 3)) (ht : (pc : Int) + off = (tgt : Int)) (kt : 0 ≤ x → V mi d mc ms Po w sz cells slots L (stk) (tgt)) (kf : ¬ 0 ≤ x → V mi d mc ms Po w sz cells slots L (stk) (pc + 3)) : V mi d mc ms Po w sz cells slots L (.int x :: stk) (pc) := by
  intro p l e s m args below meth c lo D cy H locs ls C hw hz hS hl
  exact lv_if_ge C.1 C.2.1 hd ht (fun z => kt z p l e s m args below meth c lo D cy H locs ls C hw hz hS hl) (fun z => kf z p l e s m args below meth c lo D cy H locs ls C hw hz hS hl)
theorem v_if_gt {x : Int32} {off : Int} {tgt : Nat} (hd : decode mi.2.1 pc = .ok (.ifCond .gt off, 3)) (ht : (pc : Int) + off = (tgt : Int)) (kt : 0 < x → V mi d mc ms Po w sz cells slots L (stk) (tgt)) (kf : ¬ 0 < x → V mi d mc ms Po w sz cells slots L (stk) (pc + 3)) : V mi d mc ms Po w sz cells slots L (.int x :: stk) (pc) := by
  intro p l e s m args below meth c lo D cy H locs ls C hw hz hS hl
  exact lv_if_gt C.1 C.2.1 hd ht (fun z => kt z p l e s m args below meth c lo D cy H locs ls C hw hz hS hl) (fun z => kf z p l e s m args below meth c lo D cy H locs ls C hw hz hS hl)
theorem v_if_le {x : Int32} {off : Int} {tgt : Nat} (hd : decode mi.2.1 pc = .ok (.ifCond .le off, 3)) (ht : (pc : Int) + off = (tgt : Int)) (kt : x ≤ 0 → V mi d mc ms Po w sz cells slots L (stk) (tgt)) (kf : ¬ x ≤ 0 → V mi d mc ms Po w sz cells slots L (stk) (pc + 3)) : V mi d mc ms Po w sz cells slots L (.int x :: stk) (pc) := by
  intro p l e s m args below meth c lo D cy H locs ls C hw hz hS hl
  exact lv_if_le C.1 C.2.1 hd ht (fun z => kt z p l e s m args below meth c lo D cy H locs ls C hw hz hS hl) (fun z => kf z p l e s m args below meth c lo D cy H locs ls C hw hz hS hl)
theorem v_ifnull {x : Nat} {off : Int} (hd : decode mi.2.1 pc = .ok (.ifnull off, 3)) (k : V mi d mc ms Po w sz cells slots L (stk) (pc + 3)) : V mi d mc ms Po w sz cells slots L (.ref x :: stk) (pc) := by
  intro p l e s m args below meth c lo D cy H locs ls C hw hz hS hl
  exact lv_ifnull C.1 C.2.1 hd (k p l e s m args below meth c lo D cy H locs ls C hw hz hS hl)
theorem v_ifnonnull {x : Nat} {off : Int} {tgt : Nat} (hd : decode mi.2.1 pc = .ok (.ifnonnull off, 3)) (ht : (pc : Int) + off = (tgt : Int)) (k : V mi d mc ms Po w sz cells slots L (stk) (tgt)) : V mi d mc ms Po w sz cells slots L (.ref x :: stk) (pc) := by
  intro p l e s m args below meth c lo D cy H locs ls C hw hz hS hl
  exact lv_ifnonnull C.1 C.2.1 hd ht (k p l e s m args below meth c lo D cy H locs ls C hw hz hS hl)
theorem v_ifnullN {off : Int} {tgt : Nat} (hd : decode mi.2.1 pc = .ok (.ifnull off, 3)) (ht : (pc : Int) + off = (tgt : Int)) (k : V mi d mc ms Po w sz cells slots L (stk) (tgt)) : V mi d mc ms Po w sz cells slots L (.null :: stk) (pc) := by
  intro p l e s m args below meth c lo D cy H locs ls C hw hz hS hl
  exact lv_ifnullN C.1 C.2.1 hd ht (k p l e s m args below meth c lo D cy H locs ls C hw hz hS hl)
theorem v_ifnonnullN {off : Int} (hd : decode mi.2.1 pc = .ok (.ifnonnull off, 3)) (k : V mi d mc ms Po w sz cells slots L (stk) (pc + 3)) : V mi d mc ms Po w sz cells slots L (.null :: stk) (pc) := by
  intro p l e s m args below meth c lo D cy H locs ls C hw hz hS hl
  exact lv_ifnonnullN C.1 C.2.1 hd (k p l e s m args below meth c lo D cy H locs ls C hw hz hS hl)
theorem v_acmp_eq {rx ry : Option Nat} {off : Int} {tgt : Nat} (hd : decode mi.2.1 pc = .ok (.if_acmp .eq off, 3)) (ht : (pc : Int) + off = (tgt : Int)) (kt : rx = ry → V mi d mc ms Po w sz cells slots L (stk) (tgt)) (kf : ¬ rx = ry → V mi d mc ms Po w sz cells slots L (stk) (pc + 3)) : V mi d mc ms Po w sz cells slots L (va_rf ry :: va_rf rx :: stk) (pc) := by
  intro p l e s m args below meth c lo D cy H locs ls C hw hz hS hl
  exact lv_acmp_eq C.1 C.2.1 hd ht (fun z => kt z p l e s m args below meth c lo D cy H locs ls C hw hz hS hl) (fun z => kf z p l e s m args below meth c lo D cy H locs ls C hw hz hS hl)
theorem v_acmp_ne {rx ry : Option Nat} {off : Int} {tgt : Nat} (hd : decode mi.2.1 pc = .ok (.if_acmp .ne off, 3)) (ht : (pc : Int) + off = (tgt : Int)) (kt : ¬ rx = ry → V mi d mc ms Po w sz cells slots L (stk) (tgt)) (kf : rx = ry → V mi d mc ms Po w sz cells slots L (stk) (pc + 3)) : V mi d mc ms Po w sz cells slots L (va_rf ry :: va_rf rx :: stk) (pc) := by
  intro p l e s m args below meth c lo D cy H locs ls C hw hz hS hl
  exact lv_acmp_ne C.1 C.2.1 hd ht (fun z => kt z p l e s m args below meth c lo D cy H locs ls C hw hz hS hl) (fun z => kf z p l e s m args below meth c lo D cy H locs ls C hw hz hS hl)
theorem v_tableIn {dflt lo hi : Int} {offs : Array Int} {len : Nat} {x : Int32} {off : Int} {tgt : Nat} (hd : decode mi.2.1 pc = .ok (.tableswitch dflt lo hi offs, len)) (h1 : ¬ x.toInt < lo) (h2 : ¬ hi < x.toInt) (ho : offs[(x.toInt - lo).toNat]? = some off) (ht : (pc : Int) + off = (tgt : Int)) (k : V mi d mc ms Po w sz cells slots L (stk) (tgt)) : V mi d mc ms Po w sz cells slots L (.int x :: stk) (pc) := by
  intro p l e s m args below meth c lo' D cy H locs ls C hw hz hS hl
  exact lv_tableIn C.1 C.2.1 hd h1 h2 ho ht (k p l e s m args below meth c lo' D cy H locs ls C hw hz hS hl)
theorem v_tableOut {dflt lo hi : Int} {offs : Array Int} {len : Nat} {x : Int32} {tgt : Nat} (hd : decode mi.2.1 pc = .ok (.tableswitch dflt lo hi offs, len)) (h : x.toInt < lo ∨ hi < x.toInt) (ht : (pc : Int) + dflt = (tgt : Int)) (k : V mi d mc ms Po w sz cells slots L (stk) (tgt)) : V mi d mc ms Po w sz cells slots L (.int x :: stk) (pc) := by
  intro p l e s m args below meth c lo' D cy H locs ls C hw hz hS hl
  exact lv_tableOut C.1 C.2.1 hd h ht (k p l e s m args below meth c lo' D cy H locs ls C hw hz hS hl)
theorem v_iret {x : Int32} (hd : decode mi.2.1 pc = .ok (.ireturn, 1)) (hr : mi.2.2.2 = some .int) (hc : cells ≤ mc) (hs : slots ≤ ms) (h : Po (some (.int x)) w sz) : V mi d mc ms Po w sz cells slots L ([.int x]) (pc) := by
  intro p l e s m args below meth c lo D cy H locs ls C hw hz hS hl
  refine W.widen hc hs ?_
  exact W.iret C.1 C.2.1 (C.2.2.1.trans hr) (fun t ht hW => ⟨_, w, rfl, by rw [ht]; exact hw, by rw [ht, hz]; exact h, hS.F ht⟩) hS.2.2 hd (hlocks := C.2.2.2.2.2.2.1)
theorem v_zret {x : Int32} (hd : decode mi.2.1 pc = .ok (.ireturn, 1)) (hr : mi.2.2.2 = some .boolean) (hn : narrow .boolean (.int x) = .int x) (hc : cells ≤ mc) (hs : slots ≤ ms) (h : Po (some (.int x)) w sz) : V mi d mc ms Po w sz cells slots L ([.int x]) (pc) := by
  intro p l e s m args below meth c lo D cy H locs ls C hw hz hS hl
  refine W.widen hc hs ?_
  exact W.zret C.1 C.2.1 (C.2.2.1.trans hr) hn (fun t ht hW => ⟨_, w, rfl, by rw [ht]; exact hw, by rw [ht, hz]; exact h, hS.F ht⟩) hS.2.2 hd (hlocks := C.2.2.2.2.2.2.1)
theorem v_ret (hd : decode mi.2.1 pc = .ok (.return_, 1)) (hr : mi.2.2.2 = none) (hc : cells ≤ mc) (hs : slots ≤ ms) (h : Po none w sz) : V mi d mc ms Po w sz cells slots L ([]) (pc) := by
  intro p l e s m args below meth c lo D cy H locs ls C hw hz hS hl
  refine W.widen hc hs ?_
  exact W.vret C.1 C.2.1 (C.2.2.1.trans hr) (fun t ht hW => ⟨_, w, rfl, by rw [ht]; exact hw, by rw [ht, hz]; exact h, hS.F ht⟩) hS.2.2 hd (hlocks := C.2.2.2.2.2.2.1)
theorem v_aret {v : Value} {n : String} (hd : decode mi.2.1 pc = .ok (.areturn, 1)) (hr : mi.2.2.2 = some (.object n)) (hv : v = .null ∨ ∃ a, v = .ref a) (hc : cells ≤ mc) (hs : slots ≤ ms) (h : Po (some v) w sz) : V mi d mc ms Po w sz cells slots L ([v]) (pc) := by
  intro p l e s m args below meth c lo D cy H locs ls C hw hz hS hl
  refine W.widen hc hs ?_
  exact W.aret C.1 C.2.1 (C.2.2.1.trans hr) (Or.inl ⟨n, rfl⟩) hv (fun t ht hW => ⟨_, w, rfl, by rw [ht]; exact hw, by rw [ht, hz]; exact h, hS.F ht⟩) hS.2.2 hd (hlocks := C.2.2.2.2.2.2.1)
end VR
