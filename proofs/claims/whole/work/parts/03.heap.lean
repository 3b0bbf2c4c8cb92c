section VC0
variable {p : Program} {l : Launch} {e : Env} {R : Room} {s : State} {m : MethodId} {args : Array Value} {below : List Frame} {meth : Method} {c : Code} {H : Heap} {locs : List Loc} {cells slots : Nat} {Q : State → Prop} {D : va_G} {cl : List vw_C} {tys : List (ClassId × FieldType)} {pc : Nat} {ls : Array Slot} {rest : List Value}
theorem v_copy0 {cc : ByteArray} {a : Nat} (hexec : p.tables.exec = Jvm.exec) (hb : c.code = cc) (hml : c.maxLocals = ls.size) {own : String} {index : Nat} (hown : s.vm.findClass own = some m.cls) (hlink : (Cond.methodLink own index arraycopyName).before args s = true) (hnat : (Cond.native arraycopyName).before args s = true) (hstat : (Cond.static arraycopyName).before args s = true) (hini : (Cond.initialized "java/lang/System").before args s = true)
    (hK : va_K D cl tys s) {a0 : Nat} {c0 : ClassId} {t0 : Nat} {n0 n1 : Nat} {f g : Nat → Int32} {ty : FieldType} (hP0 : va_P D cl [(a0, .inl (c0, n0, .inl f))] H) (hP1 : va_P D cl [(a, .inl (c0, n1, .inl g))] H) (ht0 : tys[t0]? = some (c0, ty)) (hprim : refKind ty = false)
    {sp dp n : Int32} (h1 : ¬ sp < 0) (h2 : ¬ dp < 0) (h3 : ¬ n < 0) (h4 : sp.toNatClampNeg + n.toNatClampNeg ≤ n0) (h5 : dp.toNatClampNeg + n.toNatClampNeg ≤ n1) (hfit : ∀ i, i < n.toNatClampNeg → fits ty (.int (f (sp.toNatClampNeg + i))) = true)
    (hframes : 1 ≤ R.frames) (hlocals : (rest.map fun v => v.category).sum + (nativeFrameWords "java/lang/System" "arraycopy" 5 + 11) ≤ R.locals) (hdg : decode cc pc = .ok (.invokestatic index, 3))
    (kk : ∀ (H1 : Heap) (L : List Loc), H1[a]? = some (vp_cell c0 (n1, .inl (va_cpy f g sp.toNatClampNeg dp.toNatClampNeg n.toNatClampNeg))) → H1.size = H.size → (∀ q : Nat, q ≠ a → H1[q]? = H[q]?) → (∀ x ∈ L, x.base = a) → W p l e R s m args below meth c H1 (locs ++ L) cells slots Q (F0 m (pc + 3) ls rest)) : W p l e R s m args below meth c H locs cells slots Q (F0 m pc ls (.int n :: .int dp :: .ref a :: .int sp :: .ref a0 :: rest)) := by
  have nn : ∀ z : Int32, ¬ z < 0 → z.toInt = (z.toNatClampNeg : Int) := by
    intro z hz
    have hz0 : (0 : Int) ≤ z.toInt := by
      have := Int32.not_lt.mp hz
      simpa using Int32.le_iff_toInt_le.mp this
    show z.toInt = ((z.toInt.toNat : Nat) : Int)
    omega
  intro T hT X
  have hc0 : H[a0]? = some (vp_cell c0 (n0, .inl f)) := hP0 0 _ rfl
  have hc1 : H[a]? = some (vp_cell c0 (n1, .inl g)) := hP1 0 _ rfl
  obtain ⟨-, k0, hk0, cm0, hkk0⟩ := (hK.2 t0 _ ht0).1 n0 (fun j => .int (f j))
  obtain ⟨-, k1, hk1, cm1, hkk1⟩ := (hK.2 t0 _ ht0).1 n1 (fun j => .int (g j))
  obtain ⟨vm', X', step⟩ := X.arraycopy hexec hown hlink hnat hstat hini (src := a0) (dst := a) (cs := vp_cell c0 (n0, .inl f)) (cd := vp_cell c0 (n1, .inl g)) (srcPos := sp) (destPos := dp) (n := n) (by rw [hT]; exact hc0) (by rw [hT]; exact hc1)
    (fun _ h => by cases h) (fun _ h => by cases h) (fun h => by cases h) (fun h => by cases h) hk0 hk1 hkk0 hkk1 (by simp [hprim]) h1 h2 h3
    (by rw [nn sp h1, nn n h3]; show ¬ _ > ((arrV c0 n0 (fun j => .int (f j))).slots.size : Int); rw [arrV_size]; omega)
    (by rw [nn dp h2, nn n h3]; show ¬ _ > ((arrV c0 n1 (fun j => .int (g j))).slots.size : Int); rw [arrV_size]; omega)
    (fun vm₁ _ i hi => by
      have e : (vp_cell c0 (n0, .inl f)).slots.getD (sp.toNatClampNeg + i) .null = .int (f (sp.toNatClampNeg + i)) := by
        show (arrV c0 n0 (fun j => .int (f j))).slots.getD _ _ = _
        rw [Array.getD_eq_getD_getElem?, arrV_read _ _ (by omega)]
        rfl
      refine ⟨?_, ?_⟩
      · rw [e]
        exact hfit i hi
      · rw [e]
        exact trivial)
    (g := F0 m pc ls (.int n :: .int dp :: .ref a :: .int sp :: .ref a0 :: rest)) rfl (by rw [hml]) (rest := rest) rfl (by rw [hb]; exact hdg) hframes (by show 2 * 0 + _ + _ ≤ _; omega)
  have e1 : copied (vp_cell c0 (n0, .inl f)) (vp_cell c0 (n1, .inl g)) sp dp n = vp_cell c0 (n1, .inl (va_cpy f g sp.toNatClampNeg dp.toNatClampNeg n.toNatClampNeg)) := va_copied (fun z => .int z) c0 c0 f g h4
  rw [e1] at X' step
  have hl : a < H.size := (Array.getElem?_eq_some_iff.mp hc1).1
  have hheap : ((T.setVm vm').setCell a (vp_cell c0 (n1, .inl (va_cpy f g sp.toNatClampNeg dp.toNatClampNeg n.toNatClampNeg)))).heap = H.setIfInBounds a (vp_cell c0 (n1, .inl (va_cpy f g sp.toNatClampNeg dp.toNatClampNeg n.toNatClampNeg))) := by rw [← hT]; rfl
  have oq : ∀ q : Nat, q ≠ a → (H.setIfInBounds a (vp_cell c0 (n1, .inl (va_cpy f g sp.toNatClampNeg dp.toNatClampNeg n.toNatClampNeg))))[q]? = H[q]? := fun q hq => by simp [Array.getElem?_setIfInBounds, Ne.symm hq]
  obtain ⟨t, a1, b1⟩ := kk _ _ (show (H.setIfInBounds a _)[a]? = some _ by simp [Array.getElem?_setIfInBounds, hl]) (by simp) oq (fun q hq => by
      obtain ⟨z, -, hz⟩ := List.mem_map.mp hq
      rw [← hz]) _ hheap X'
  exact ⟨t, step t a1, b1⟩
end VC0
/-- what the tables say of a class's fields: by the place of the class in vwCl -/
def FT (ci : Nat) (C : String) (T : u_T) (N : Nat) (ty : Nat → FieldType) : Prop := vwCl[ci]? = some (C, T, N) ∧ (∀ w ∈ u_ws C T N, w ∈ lw_tb) ∧ (∀ k, k < N → parseFieldDescriptor (T k).2.2.1 = some (ty k)) ∧ (∀ a, a < N → ∀ b, b < N → a ≠ b → (T a).2.1 ≠ (T b).2.1)
theorem FT.ts {ci : Nat} {C : String} {T : u_T} {N : Nat} {ty : Nat → FieldType} (h : FT ci C T N ty) (mi : MI) : ∀ w ∈ u_ws C T N, w ∈ miWs mi := fun w hw => List.mem_cons_of_mem _ (h.2.1 w hw)
theorem tys5_at (cy : Nat → ClassId) {t : Nat} (h : t < 5) : (tys5 cy)[t]? = some (cy t, tyA t) := by
  match t, h with
  | 0, _ => rfl
  | 1, _ => rfl
  | 2, _ => rfl
  | 3, _ => rfl
  | 4, _ => rfl
theorem hW.ob {D : va_G} {cy : Nat → ClassId} {lo q ci : Nat} {w : Wd} {fs : List Value} {H : Heap} (h : hW D cy lo w H) (hq : w q = some (ob ci fs)) : va_P D vwCl [(q, .inr (ci, fs))] H := h.P hq
theorem hW.ia {D : va_G} {cy : Nat → ClassId} {lo q t n : Nat} {w : Wd} {f : Nat → Int32} {H : Heap} (h : hW D cy lo w H) (hq : w q = some (ia t n f)) : va_P D vwCl [(q, .inl (cy t, n, .inl f))] H := h.P hq
theorem hW.ra {D : va_G} {cy : Nat → ClassId} {lo q t n : Nat} {w : Wd} {f : Nat → Option Nat} {H : Heap} (h : hW D cy lo w H) (hq : w q = some (ra t n f)) : va_P D vwCl [(q, .inl (cy t, n, .inr (.inr (.inr (.inr f)))))] H := h.P hq
theorem inR {k n : Nat} (h : k < n) (hn : n ≤ 2147483647) : vp_in (nI k) n := nI_in h (by omega)
theorem upS {lo a : Nat} {H0 H H1 : Heap} {locs L : List Loc} (hS : va_S (fun q => lo ≤ q) H0 H locs) (ha : lo ≤ a) (z : H1.size = H.size) (oq : ∀ q : Nat, q ≠ a → H1[q]? = H[q]?) (hL : ∀ x ∈ L, x.base = a) : va_S (fun q => lo ≤ q) H0 H1 (locs ++ L) :=
  ⟨by rw [z]; exact hS.1, fun q h1 h2 => by rw [oq q (fun e => h2 (by rw [e]; exact ha))]; exact hS.2.1 q h1 h2, fun x hx => by
    rcases List.mem_append.mp hx with h | h
    · exact hS.2.2 x h
    · rw [hL x h]; exact ha⟩
section VH
variable {mi : MI} {d mc ms : Nat} {Po : Option Value → Wd → Nat → Prop} {w : Wd} {sz cells slots : Nat} {L : List (Option Value)} {stk : List Value} {pc : Nat} {a : Nat}
variable {ci : Nat} {C0 : String} {T : u_T} {N : Nat} {ty : Nat → FieldType}

theorem v_get {idx : Nat} {fs : List Value} {v : Value} (k : Nat) (hd : decode mi.2.1 pc = .ok (.getfield idx, 3)) (hF : FT ci C0 T N ty) (hk : k < N) (ho : (T k).1 = C0) (hlink : Cond.fieldLink mi.1.cls idx C0 (T k).2.1 (T k).2.2.1 ∈ lw_tb) (ha : w a = some (ob ci fs)) (hv : fs[k]? = some v) (kk : V mi d mc ms Po (w) (sz) (cells) (slots) L (v :: stk) (pc + 3)) : V mi d mc ms Po (w) (sz) (cells) (slots) L (.ref a :: stk) (pc) := by
  intro p l e s m args below meth c lo D cy H locs ls C hw hz hS hl
  exact va_get C.1 C.2.1 C.2.2.2.2.2.1 (hF.ts mi) C.2.2.2.2.1 C.2.2.2.2.2.2.2.1.1 (hw.ob ha) 0 rfl hF.1 k hk (C.2.2.2.2.2.1 _ (List.mem_cons_of_mem _ hlink)) (fun x hx => by rw [← ho]; exact hx) hv hd (kk p l e s m args below meth c lo D cy H locs ls C hw hz hS hl)
theorem v_put {idx : Nat} {fs : List Value} {v : Value} (k : Nat) (hd : decode mi.2.1 pc = .ok (.putfield idx, 3)) (hF : FT ci C0 T N ty) (hk : k < N) (ho : (T k).1 = C0) (hlink : Cond.fieldLink mi.1.cls idx C0 (T k).2.1 (T k).2.2.1 ∈ lw_tb) (ha : w a = some (ob ci fs)) (hn : narrow (ty k) v = v) (hfit : fits (ty k) v = true) (hl0 : k < fs.length) (hfin : (T k).2.2.2 = false) (kk : V mi d mc ms Po (wu w a (ob ci (fs.set k v))) (sz) (cells) (slots) L (stk) (pc + 3)) : V mi d mc ms Po (w) (sz) (cells) (slots) L (v :: .ref a :: stk) (pc) := by
  intro p l e s m args below meth c lo D cy H locs ls C hw hz hS hl
  have hts := C.2.2.2.2.2.1
  have hown := C.2.2.2.2.1
  have hK := C.2.2.2.2.2.2.2.1.1
  have hap := va_apart (own := mi.1.cls) hts (hF.ts mi) ty hF.2.2.1 hF.2.2.2 hK hF.1
  obtain ⟨hlo, r, h1, cell, q1, q2, q3, q4⟩ := hw a _ ha
  have hr : r = (C0, T, N) := Option.some.inj (h1.symm.trans hF.1)
  subst hr
  obtain ⟨hSl, hfc, kC, hkC, hkind⟩ := hK.1 ci _ hF.1
  obtain ⟨cf, kf, fi, f, hi, hsl⟩ := hSl k hk
  have hlay := hts _ (hF.ts mi _ (u_in_lay hk))
  unfold u_lay at hlay
  rw [if_neg (by rw [hfin]; decide)] at hlay
  have hst := (u_facts hfc hkC (u_lays hts (hF.ts mi) hk) hi).1
  have h6 := u_store hfc hkC hkind hlay hi (hF.2.2.1 k hk) hn hfit
  refine W.putK C.1 C.2.1 (f := f) ⟨hown, hts _ (List.mem_cons_of_mem _ hlink), ⟨_, _, _, by rw [← ho]; exact hi⟩, hst⟩ (by rw [q2]; exact h6) q1 q3 (by rw [hsl]; exact k2_hasslot (q4 k hk)) rfl rfl hd fun H' e1 e2 e3 => ?_
  rw [hsl] at e1 ⊢
  exact kk p l e s m args below meth c lo D cy H' _ ls C (hw.put hlo ⟨_, hF.1, t_OB.to (V := updV (vp_V fs) k v) ⟨_, e1, q2, q3, t_set q4 hap hk v⟩ (fun j _ => vp_updV_set hl0 v j)⟩ e3) (by rw [e2]; exact hz) (upS hS hlo e2 e3 (fun x hx => by rw [List.mem_singleton] at hx; rw [hx])) hl
theorem v_putF {idx : Nat} {fs : List Value} {v : Value} (k : Nat) (hd : decode mi.2.1 pc = .ok (.putfield idx, 3)) (hF : FT ci C0 T N ty) (hk : k < N) (ho : (T k).1 = C0) (hlink : Cond.fieldLink mi.1.cls idx C0 (T k).2.1 (T k).2.2.1 ∈ lw_tb) (ha : w a = some (ob ci fs)) (hn : narrow (ty k) v = v) (hfit : fits (ty k) v = true) (hl0 : k < fs.length) (hfin : (T k).2.2.2 = true) (hin2 : mi.1.name = "<init>") (hdecl : (T k).1 = mi.1.cls) (kk : V mi d mc ms Po (wu w a (ob ci (fs.set k v))) (sz) (cells) (slots) L (stk) (pc + 3)) : V mi d mc ms Po (w) (sz) (cells) (slots) L (v :: .ref a :: stk) (pc) := by
  intro p l e s m args below meth c lo D cy H locs ls C hw hz hS hl
  have hts := C.2.2.2.2.2.1
  have hown := C.2.2.2.2.1
  have hK := C.2.2.2.2.2.2.2.1.1
  have hap := va_apart (own := mi.1.cls) hts (hF.ts mi) ty hF.2.2.1 hF.2.2.2 hK hF.1
  obtain ⟨hlo, r, h1, cell, q1, q2, q3, q4⟩ := hw a _ ha
  have hr : r = (C0, T, N) := Option.some.inj (h1.symm.trans hF.1)
  subst hr
  obtain ⟨hSl, hfc, kC, hkC, hkind⟩ := hK.1 ci _ hF.1
  obtain ⟨cf, kf, fi, f, hi, hsl⟩ := hSl k hk
  have hlay := hts _ (hF.ts mi _ (u_in_lay hk))
  unfold u_lay at hlay
  rw [if_pos hfin] at hlay
  have hst := (u_facts hfc hkC (u_lays hts (hF.ts mi) hk) hi).1
  have hcf : m.cls = cf := by
    obtain ⟨_, _, c', _, _, _, -, -, hf', -, -, -, hown2, -⟩ := Cond.laysFinal_spec hlay
    have e1 : c' = cf := by have := hi.symm.trans hf'; simp at this; exact this.1.symm
    rw [hdecl] at hown2
    rw [← e1]; exact Option.some.inj (hown.symm.trans hown2)
  have h6 := u_fits hfc hkC hkind (Or.inr hlay) hi (hF.2.2.1 k hk) hn hfit
  refine W.putFinK C.1 C.2.1 hown (hts _ (List.mem_cons_of_mem _ hlink)) (by rw [← ho]; exact hi) hst hcf (C.2.2.2.2.2.2.2.2.2.trans hin2) (by rw [q2]; exact h6) q1 q3 (by rw [hsl]; exact k2_hasslot (q4 k hk)) rfl rfl hd fun H' e1 e2 e3 => ?_
  rw [hsl] at e1 ⊢
  exact kk p l e s m args below meth c lo D cy H' _ ls C (hw.put hlo ⟨_, hF.1, t_OB.to (V := updV (vp_V fs) k v) ⟨_, e1, q2, q3, t_set q4 hap hk v⟩ (fun j _ => vp_updV_set hl0 v j)⟩ e3) (by rw [e2]; exact hz) (upS hS hlo e2 e3 (fun x hx => by rw [List.mem_singleton] at hx; rw [hx])) hl
theorem v_iald {n : Nat} {f : Nat → Int32} {i : Int32} (j : Nat) (hd : decode mi.2.1 pc = .ok (.iaload, 1)) (ha : w a = some (ia 1 n f)) (hj : i = nI j) (hjn : j < n) (hn : n ≤ 2147483647) (kk : V mi d mc ms Po (w) (sz) (cells) (slots) L (.int (f j) :: stk) (pc + 1)) : V mi d mc ms Po (w) (sz) (cells) (slots) L (.int i :: .ref a :: stk) (pc) := by
  intro p l e s m args below meth c lo D cy H locs ls C hw hz hS hl
  subst hj
  refine va_iald C.1 C.2.1 C.2.2.2.2.2.2.2.1.1 (hw.ia ha) 0 1 rfl (tys5_at cy (by decide)) (inR hjn hn) hd ?_
  rw [nI_clamp (by omega)]
  exact kk p l e s m args below meth c lo D cy H locs ls C hw hz hS hl
theorem v_cald {n : Nat} {f : Nat → Int32} {i : Int32} (j : Nat) (hd : decode mi.2.1 pc = .ok (.caload, 1)) (ha : w a = some (ia 0 n f)) (hj : i = nI j) (hjn : j < n) (hn : n ≤ 2147483647) (kk : V mi d mc ms Po (w) (sz) (cells) (slots) L (.int (f j) :: stk) (pc + 1)) : V mi d mc ms Po (w) (sz) (cells) (slots) L (.int i :: .ref a :: stk) (pc) := by
  intro p l e s m args below meth c lo D cy H locs ls C hw hz hS hl
  subst hj
  refine va_cald C.1 C.2.1 C.2.2.2.2.2.2.2.1.1 (hw.ia ha) 0 0 rfl (tys5_at cy (by decide)) (inR hjn hn) hd ?_
  rw [nI_clamp (by omega)]
  exact kk p l e s m args below meth c lo D cy H locs ls C hw hz hS hl
theorem v_aald {n t : Nat} {f : Nat → Option Nat} {i : Int32} {b : Nat} (j : Nat) (ht : t = 2 ∨ t = 3 ∨ t = 4) (hd : decode mi.2.1 pc = .ok (.aaload, 1)) (ha : w a = some (ra t n f)) (hj : i = nI j) (hjn : j < n) (hn : n ≤ 2147483647) (hf : f j = some b) (kk : V mi d mc ms Po (w) (sz) (cells) (slots) L (.ref b :: stk) (pc + 1)) : V mi d mc ms Po (w) (sz) (cells) (slots) L (.int i :: .ref a :: stk) (pc) := by
  intro p l e s m args below meth c lo D cy H locs ls C hw hz hS hl
  subst hj
  have key : W p l e (rmd d mc ms) s m args below meth c H locs cells slots (MQ below (Qd Po D cy lo) args s mc ms (fun q => lo ≤ q)) (F0 m (pc + 1) ls (va_rf (f (nI j).toNatClampNeg) :: stk)) := by
    rw [nI_clamp (by omega), hf]
    exact kk p l e s m args below meth c lo D cy H locs ls C hw hz hS hl
  rcases ht with rfl | rfl | rfl
  · exact va_aldq C.1 C.2.1 C.2.2.2.2.2.2.2.1.1 (hw.ra ha) 0 2 rfl (tys5_at cy (by decide)) (inR hjn hn) hd key
  · exact va_aldq C.1 C.2.1 C.2.2.2.2.2.2.2.1.1 (hw.ra ha) 0 3 rfl (tys5_at cy (by decide)) (inR hjn hn) hd key
  · exact va_aldq C.1 C.2.1 C.2.2.2.2.2.2.2.1.1 (hw.ra ha) 0 4 rfl (tys5_at cy (by decide)) (inR hjn hn) hd key
theorem v_iast {n : Nat} {f : Nat → Int32} {i x : Int32} (j : Nat) (hd : decode mi.2.1 pc = .ok (.iastore, 1)) (ha : w a = some (ia 1 n f)) (hj : i = nI j) (hjn : j < n) (hn : n ≤ 2147483647) (kk : V mi d mc ms Po (wu w a (ia 1 n (upd f j (x)))) (sz) (cells) (slots) L (stk) (pc + 1)) : V mi d mc ms Po (w) (sz) (cells) (slots) L (.int x :: .int i :: .ref a :: stk) (pc) := by
  intro p l e s m args below meth c lo D cy H locs ls C hw hz hS hl
  subst hj
  have hlo := (hw a _ ha).1
  have hat : H[a]? = some (vp_cell (cy 1) (n, .inl f)) := (hw a _ ha).2
  refine W.iast C.1 C.2.1 hat (((C.2.2.2.2.2.2.2.1.1).2 1 _ (tys5_at cy (by decide))).1 n (fun j => .int (f j))) (fun q => by cases q) (by show ¬ (_ < 0 ∨ (arrV _ _ _).slots.size ≤ _); rw [arrV_size]; exact inR hjn hn) rfl rfl hd fun H1 e1 z oq => ?_
  refine kk p l e s m args below meth c lo D cy H1 _ ls C (hw.put hlo ?_ oq) (by rw [z]; exact hz) (upS hS hlo z oq (fun x hx => by rw [List.mem_singleton] at hx; rw [hx])) hl
  show H1[a]? = some (vp_cell (cy 1) (n, .inl (upd f j (x))))
  rw [e1]
  rw [vp_cell_i, vp_cell_i, arrV_store, nI_clamp (by omega)]
  congr 2
  funext q
  by_cases hq : q = j
  · subst hq
    simp [updV, upd, vp_nar]
    try rfl
  · simp [updV, upd, hq]
theorem v_cast {n : Nat} {f : Nat → Int32} {i x : Int32} (j : Nat) (hd : decode mi.2.1 pc = .ok (.castore, 1)) (ha : w a = some (ia 0 n f)) (hj : i = nI j) (hjn : j < n) (hn : n ≤ 2147483647) (kk : V mi d mc ms Po (wu w a (ia 0 n (upd f j (vp_nar .char x)))) (sz) (cells) (slots) L (stk) (pc + 1)) : V mi d mc ms Po (w) (sz) (cells) (slots) L (.int x :: .int i :: .ref a :: stk) (pc) := by
  intro p l e s m args below meth c lo D cy H locs ls C hw hz hS hl
  subst hj
  have hlo := (hw a _ ha).1
  have hat : H[a]? = some (vp_cell (cy 0) (n, .inl f)) := (hw a _ ha).2
  refine W.cast C.1 C.2.1 hat (((C.2.2.2.2.2.2.2.1.1).2 0 _ (tys5_at cy (by decide))).1 n (fun j => .int (f j))) (fun q => by cases q) (by show ¬ (_ < 0 ∨ (arrV _ _ _).slots.size ≤ _); rw [arrV_size]; exact inR hjn hn) rfl rfl hd fun H1 e1 z oq => ?_
  refine kk p l e s m args below meth c lo D cy H1 _ ls C (hw.put hlo ?_ oq) (by rw [z]; exact hz) (upS hS hlo z oq (fun x hx => by rw [List.mem_singleton] at hx; rw [hx])) hl
  show H1[a]? = some (vp_cell (cy 0) (n, .inl (upd f j (vp_nar .char x))))
  rw [e1]
  rw [vp_cell_i, vp_cell_i, arrV_store, nI_clamp (by omega)]
  congr 2
  funext q
  by_cases hq : q = j
  · subst hq
    simp [updV, upd, vp_nar]
    try rfl
  · simp [updV, upd, hq]
theorem v_aast {n t : Nat} {f : Nat → Option Nat} {i : Int32} {b : Nat} {fs : List Value} (j : Nat) (ht : (t = 2 ∧ ci = 1) ∨ (t = 3 ∧ ci = 2) ∨ (t = 4 ∧ ci = 4)) (hd : decode mi.2.1 pc = .ok (.aastore, 1)) (ha : w a = some (ra t n f)) (hb : w b = some (ob ci fs)) (hj : i = nI j) (hjn : j < n) (hn : n ≤ 2147483647) (kk : V mi d mc ms Po (wu w a (ra t n (va_up f j (some b)))) (sz) (cells) (slots) L (stk) (pc + 1)) : V mi d mc ms Po (w) (sz) (cells) (slots) L (.ref b :: .int i :: .ref a :: stk) (pc) := by
  intro p l e s m args below meth c lo D cy H locs ls C hw hz hS hl
  subst hj
  have hlo := (hw a _ ha).1
  have hK := C.2.2.2.2.2.2.2.1.1
  have hat : H[a]? = some (vp_cell (cy t) (n, .inr (.inr (.inr (.inr f))))) := (hw a _ ha).2
  have h0 : ¬ nI j < 0 := nI_pos (by omega)
  obtain ⟨-, r', hr', cellV, g1, g2, g3, -⟩ := hw b _ hb
  have hty : ∃ r : vw_C, vwCl[ci]? = some r ∧ tyA t = .object r.1 ∧ t < 5 := by
    rcases ht with ⟨rfl, rfl⟩ | ⟨rfl, rfl⟩ | ⟨rfl, rfl⟩
    · exact ⟨_, rfl, rfl, by decide⟩
    · exact ⟨_, rfl, rfl, by decide⟩
    · exact ⟨_, rfl, rfl, by decide⟩
  obtain ⟨r, hc, htA, ht5⟩ := hty
  have hcls := (hK.1 ci r hc).2
  have hRA := (hK.2 t _ (tys5_at cy ht5)).2
  rw [htA] at hRA
  obtain ⟨kA, comp, k1, k2, k3, -⟩ := hRA
  have hcomp : comp = D.1 ci := Option.some.inj (k3.symm.trans hcls.1)
  subst hcomp
  obtain ⟨kC, hkC, -⟩ := hcls.2
  refine W.aast C.1 C.2.1 hat (fun q h => by cases h) (fun h => by cases h) k1 k2 rfl hkC ⟨h0, by show _ < (arrV _ _ _).slots.size; rw [arrV_size, nI_clamp (by omega)]; exact hjn⟩ g1 (fun q h => by rw [g3] at h; cases h) (by rw [g2]; exact hkC) (by rw [g2]; exact va_assign hcls) rfl rfl hd fun H1 e1 z oq => ?_
  refine kk p l e s m args below meth c lo D cy H1 _ ls C (hw.put hlo ?_ oq) (by rw [z]; exact hz) (upS hS hlo z oq (fun x hx => by rw [List.mem_singleton] at hx; rw [hx])) hl
  show H1[a]? = some (vp_cell _ (n, _))
  rw [e1]
  rw [vp_cell_q, vp_cell_q, arrV_store, nI_clamp (by omega)]
  congr 2
  funext q
  by_cases hq : q = j
  · subst hq
    simp [updV, va_up, va_rf]
  · simp [updV, va_up, hq]
theorem v_alenI {n t : Nat} {f : Nat → Int32} (ht : t < 5) (hd : decode mi.2.1 pc = .ok (.arraylength, 1)) (ha : w a = some (ia t n f)) (kk : V mi d mc ms Po (w) (sz) (cells) (slots) L (.int (nI n) :: stk) (pc + 1)) : V mi d mc ms Po (w) (sz) (cells) (slots) L (.ref a :: stk) (pc) := by
  intro p l e s m args below meth c lo D cy H locs ls C hw hz hS hl
  exact va_alen C.1 C.2.1 C.2.2.2.2.2.2.2.1.1 (hw.ia ha) 0 t rfl (tys5_at cy ht) rfl hd (kk p l e s m args below meth c lo D cy H locs ls C hw hz hS hl)
theorem v_alenR {n t : Nat} {f : Nat → Option Nat} (ht : t < 5) (hd : decode mi.2.1 pc = .ok (.arraylength, 1)) (ha : w a = some (ra t n f)) (kk : V mi d mc ms Po (w) (sz) (cells) (slots) L (.int (nI n) :: stk) (pc + 1)) : V mi d mc ms Po (w) (sz) (cells) (slots) L (.ref a :: stk) (pc) := by
  intro p l e s m args below meth c lo D cy H locs ls C hw hz hS hl
  exact va_alen C.1 C.2.1 C.2.2.2.2.2.2.2.1.1 (hw.ra ha) 0 t rfl (tys5_at cy ht) rfl hd (kk p l e s m args below meth c lo D cy H locs ls C hw hz hS hl)
theorem v_copy {n0 n1 t a0 idx n : Nat} {f g : Nat → Int32} (ht : t < 2) (hd : decode mi.2.1 pc = .ok (.invokestatic idx, 3)) (hlink : Cond.methodLink mi.1.cls idx arraycopyName ∈ lw_tb) (ha0 : w a0 = some (ia t n0 f)) (ha1 : w a = some (ia t n1 g)) (h4 : n ≤ n0) (h5 : n ≤ n1) (hn : n1 ≤ 2147483647) (hfit : ∀ i, i < n → fits (tyA t) (.int (f i)) = true) (hd1 : 1 ≤ d) (hst : (stk.map fun v => v.category).sum ≤ 4) (kk : V mi d mc ms Po (wu w a (ia t n1 (fun k => if k < n then f k else g k))) (sz) (cells) (slots) L (stk) (pc + 3)) : V mi d mc ms Po (w) (sz) (cells) (slots) L (.int (nI n) :: .int (nI 0) :: .ref a :: .int (nI 0) :: .ref a0 :: stk) (pc) := by
  intro p l e s m args below meth c lo D cy H locs ls C hw hz hS hl
  have hts := C.2.2.2.2.2.1
  have hK := C.2.2.2.2.2.2.2.1.1
  have hlo := (hw a _ ha1).1
  have hprim : refKind (tyA t) = false := by
    match t, ht with
    | 0, _ => rfl
    | 1, _ => rfl
  have e0 : (nI 0).toNatClampNeg = 0 := rfl
  have en : (nI n).toNatClampNeg = n := nI_clamp (by omega)
  refine v_copy0 C.1 C.2.1 (C.2.2.2.1.trans hl.1.1.symm) C.2.2.2.2.1 (hts _ (List.mem_cons_of_mem _ hlink)) (hts _ (List.mem_cons_of_mem _ (in_tb (by decide +kernel) rfl))) (hts _ (List.mem_cons_of_mem _ (in_tb (by decide +kernel) rfl))) (hts _ (List.mem_cons_of_mem _ (in_tb (by decide +kernel) rfl))) hK (hw.ia ha0) (hw.ia ha1) (tys5_at cy (Nat.lt_of_lt_of_le ht (by decide))) hprim (sp := nI 0) (dp := nI 0) (n := nI n) (by decide) (by decide) (nI_pos (by omega)) (by rw [e0, en]; omega) (by rw [e0, en]; omega) (by rw [e0, en]; intro i hi; rw [Nat.zero_add]; exact hfit i hi) hd1 ?_ hd fun H1 L1 e1 z oq hL1 => ?_
  · show _ ≤ 36 * d
    have : nativeFrameWords "java/lang/System" "arraycopy" 5 ≤ 20 := by decide +kernel
    omega
  · refine kk p l e s m args below meth c lo D cy H1 _ ls C (hw.put hlo ?_ oq) (by rw [z]; exact hz) (upS hS hlo z oq hL1) hl
    show H1[a]? = some (vp_cell (cy t) (n1, .inl (fun k => if k < n then f k else g k)))
    rw [e1, e0, en]
    congr 4
    funext k
    simp [va_cpy]
end VH
