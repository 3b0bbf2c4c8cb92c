theorem clr_ok {m v : Nat} (hm : m < 1024) (hv : v < 10) : ∃ u, u < 1024 ∧ (nI m &&& ((nI 1 <<< (nI v &&& 31)) ^^^ (-1))) = nI u ∧ ∀ z, z < 10 → u.testBit z = (m.testBit z && !(z == v)) := by
  have : ∀ m : Fin 1024, ∀ v : Fin 10, ((nI m.val &&& ((nI 1 <<< (nI v.val &&& 31)) ^^^ (-1))) = nI (m.val - (if m.val.testBit v.val = true then 2 ^ v.val else 0))) ∧ ∀ z : Fin 10, (m.val - (if m.val.testBit v.val = true then 2 ^ v.val else 0)).testBit z.val = (m.val.testBit z.val && !(z.val == v.val)) := by decide +kernel
  have h := this ⟨m, hm⟩ ⟨v, hv⟩
  exact ⟨m - (if m.testBit v = true then 2 ^ v else 0), by omega, h.1, fun z hz => h.2 ⟨z, hz⟩⟩
theorem set_ok {m v : Nat} (hm : m < 1024) (hv : v < 10) : ∃ u, u < 1024 ∧ (nI m ||| (nI 1 <<< (nI v &&& 31))) = nI u ∧ ∀ z, z < 10 → u.testBit z = (m.testBit z || (z == v)) := by
  have : ∀ m : Fin 1024, ∀ v : Fin 10, (m.val + (if m.val.testBit v.val = true then 0 else 2 ^ v.val) < 1024) ∧ ((nI m.val ||| (nI 1 <<< (nI v.val &&& 31))) = nI (m.val + (if m.val.testBit v.val = true then 0 else 2 ^ v.val))) ∧ ∀ z : Fin 10, (m.val + (if m.val.testBit v.val = true then 0 else 2 ^ v.val)).testBit z.val = (m.val.testBit z.val || (z.val == v.val)) := by decide +kernel
  have h := this ⟨m, hm⟩ ⟨v, hv⟩
  exact ⟨m + (if m.testBit v = true then 0 else 2 ^ v), h.1, h.2.1, fun z hz => h.2.2 ⟨z, hz⟩⟩
