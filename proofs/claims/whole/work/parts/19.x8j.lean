/-- at k in f, n there is the word g[b..e) -/
def mtc (f : Nat → Int32) (n : Nat) (g : Nat → Int32) (b e k : Nat) : Bool := ((decide (k = 0) || bl f (k - 1)) && (decide (k + (e - b) = n) || bl f (k + (e - b)))) && al (fun c => f (k + c) == g (b + c)) (e - b)
def whB (f : Nat → Int32) (n : Nat) (g : Nat → Int32) (b e : Nat) : Bool := decide (fst (mtc f n g b e) (n + 1 - (e - b)) < n + 1 - (e - b))
def whI (f : Nat → Int32) (n : Nat) (g : Nat → Int32) (m i : Nat) : Bool := whB f n g (beg g m i) (enn g m (beg g m i))
/-- whether f, n has a word of g, m -/
def hsT (f : Nat → Int32) (n : Nat) (g : Nat → Int32) (m : Nat) : Bool := decide (fst (whI f n g m) (nw g m) < nw g m)
theorem beg_prev {f : Nat → Int32} {n j : Nat} (h : j ≤ cnt (bl f) n) (h0 : 0 < beg f n j) : bl f (beg f n j - 1) = true := by
  have B := beg_spec h
  obtain ⟨k, ek⟩ : ∃ k, beg f n j = k + 1 := ⟨beg f n j - 1, by omega⟩
  have h1 := B.2.2 k (by omega)
  have h2 := B.2.1
  rw [ek] at h2 ⊢
  simp only [cnt] at h2
  show bl f k = true
  cases e : bl f k
  · rw [e] at h2
    simp at h2
    omega
  · rfl
theorem okT_nb {g : Nat → Int32} {m : Nat} (h : okT g m) : bl g (m - 1) = false := by
  obtain ⟨k, ek⟩ : ∃ k, m = k + 1 := ⟨m - 1, by have := h.1; omega⟩
  have h3 := h.2.2
  rw [ek] at h3 ⊢
  simp only [isw, ltr, decide_eq_true_eq] at h3
  show bl g k = false
  cases e : bl g k
  · rfl
  · have e1 : g k = nI 32 := by simpa [bl] using e
    rw [e1] at h3
    exact absurd h3.1 (by decide)
theorem beg_lt {g : Nat → Int32} {m i : Nat} (h : okT g m) (hi : i < nw g m) : beg g m i < m := by
  have hc : i ≤ cnt (bl g) m := by
    unfold nw at hi
    split at hi <;> omega
  have B := beg_spec hc
  have h0 := h.1
  rcases Nat.lt_or_ge (beg g m i) m with h1 | h1
  · exact h1
  · have e1 : beg g m i = m := by omega
    have h2 := beg_prev hc (by omega)
    rw [e1, okT_nb h] at h2
    cases h2
theorem cnt_split (p : Nat → Bool) (a : Nat) : ∀ b, cnt p (a + b) = cnt p a + cnt (fun k => p (a + k)) b
  | 0 => by simp [cnt]
  | b + 1 => by
    have h1 := cnt_split p a b
    show cnt p (a + b) + (if p (a + b) = true then 1 else 0) = _
    rw [h1]
    simp only [cnt]
    omega
theorem cnt_0 {p : Nat → Bool} : ∀ {n : Nat}, (∀ k, k < n → p k = false) → cnt p n = 0
  | 0, _ => rfl
  | n + 1, h => by
    simp only [cnt]
    rw [cnt_0 (fun k hk => h k (by omega)), h n (by omega)]
    simp
/-- behind a word the next one begins -/
theorem beg_next {g : Nat → Int32} {m i : Nat} (hm : 0 < m) (hi : i < nw g m) : beg g m (i + 1) = enn g m (beg g m i) + 1 := by
  have hc : i ≤ cnt (bl g) m := by
    unfold nw at hi
    split at hi <;> omega
  have B := beg_spec hc
  have hF := fst_le (fun k => bl g (beg g m i + k)) (m - beg g m i)
  have hno := fst_no (fun k => bl g (beg g m i + k)) (m - beg g m i)
  obtain ⟨F, eF⟩ : ∃ F, F = fst (fun k => bl g (beg g m i + k)) (m - beg g m i) := ⟨_, rfl⟩
  have hen : enn g m (beg g m i) = beg g m i + F := by rw [eF]; rfl
  rw [← eF] at hF hno
  have hz : ∀ k, k ≤ F → cnt (bl g) (beg g m i + k) = i := by
    intro k hk
    rw [cnt_split, B.2.1, cnt_0 (fun c hc => hno c (by omega))]
    omega
  rw [hen]
  by_cases hlt : F < m - beg g m i
  · have hy := fst_yes (fun k => bl g (beg g m i + k)) (m - beg g m i) (by rw [← eF]; exact hlt)
    rw [← eF] at hy
    have h1 : cnt (bl g) (beg g m i + F + 1) = i + 1 := by
      show cnt (bl g) (beg g m i + F) + (if bl g (beg g m i + F) = true then 1 else 0) = i + 1
      rw [hz F (Nat.le_refl _), if_pos hy]
    refine fst_eq (by omega) (by simp [h1]) (fun j hj => ?_)
    have h2 : cnt (bl g) j ≤ cnt (bl g) (beg g m i + F) := cnt_mono _ (by omega)
    rw [hz F (Nat.le_refl _)] at h2
    simp
    omega
  · have hFm : beg g m i + F = m := by omega
    have h1 : cnt (bl g) m = i := by rw [← hFm]; exact hz F (Nat.le_refl _)
    rw [hFm]
    refine fst_none (fun j hj => ?_)
    have h2 : cnt (bl g) j ≤ cnt (bl g) m := cnt_mono _ (by omega)
    simp
    omega
theorem beg_0 (g : Nat → Int32) (m : Nat) : beg g m 0 = 0 := fst_eq (by omega) (by simp [cnt]) (fun j hj => absurd hj (Nat.not_lt_zero _))
theorem beg_nw {g : Nat → Int32} {m : Nat} (hm : 0 < m) : beg g m (nw g m) = m + 1 := by
  refine fst_none (fun j hj => ?_)
  have h2 : cnt (bl g) j ≤ cnt (bl g) m := cnt_mono _ (by omega)
  unfold nw
  rw [if_pos hm]
  simp
  omega
set_option maxHeartbeats 4000000 in
set_option maxRecDepth 100000 in
theorem c_hasTold {w : Wd} {o ns tn : Nat} {kp : Int32} {σ tx cm : Nat → Int32} (hM : MW w o ns tn kp σ tx cm) (l n : Nat) (hok : okT tx tn) (ht : tn ≤ 60) (hn : ub (σ l) 61 ∧ n = nt (σ l)) (hl : l + 64 ≤ 17088) : Rd mX8_hasTold 0 [.ref o, .int (nI l)] w (some (.int (b2i (hsT (sft σ (l + 4)) n tx tn)))) := by
  intro sz
  refine Ev.ofV [some (.ref o), some (.int (nI l)), none, none, none, none, none, none] (by decide) (Nat.le_of_ble_eq_true rfl) rfl rfl rfl ?_
  obtain ⟨hnu, en⟩ := hn
  have hn : σ l = nI n ∧ n < 61 := ⟨by rw [en]; exact hnu.1, by rw [en]; exact hnu.2⟩
  refine v_iconst (v := nI 0) dX8_hasTold_0 (by decide) ?_
  refine v_istore_n dX8_hasTold_1 (by decide) rfl ?_
  refine v_iconst (v := nI 0) dX8_hasTold_2 (by decide) ?_
  refine v_istore_n dX8_hasTold_3 (by decide) rfl ?_
  have LP4 : ∀ i, i ≤ fst (whI (sft σ (l + 4)) n tx tn) (nw tx tn) → V mX8_hasTold 0 0 0 (fun r' w' zz => r' = some (.int (b2i (hsT (sft σ (l + 4)) n tx tn))) ∧ w' = w ∧ zz = sz) (w) (sz) (0) (0) [some (.ref o), some (.int (nI l)), some (.int (nI 0)), some (.int (nI (beg tx tn i))), none, none, none, none] [] 4 := by
    refine dn (fun i hi ihi => ?_)
    have hfi := fst_le (whI (sft σ (l + 4)) n tx tn) (nw tx tn)
    have hbl : beg tx tn i ≤ tn + 1 := fst_le _ _
    refine v_iload_n dX8_hasTold_4 rfl ?_
    refine v_aload_n dX8_hasTold_5 rfl ?_
    refine v_get 4 dX8_hasTold_6 FTX8 (by decide) rfl fl_X8_56 hM.1 rfl ?_
    refine v_icmp_geN (tgt := 207) dX8_hasTold_9 (by decide) (by omega) (by omega) (fun b9 => ?_) (fun b9 => ?_)
    ·
      have e5 : ¬ i < nw tx tn := fun h => by have := beg_lt hok h; omega
      have e6 : hsT (sft σ (l + 4)) n tx tn = false := by
        unfold hsT
        rw [decide_eq_false_iff_not]
        omega
      refine v_iload_n dX8_hasTold_207 rfl ?_
      refine v_zret dX8_hasTold_208 rfl (by decide) (Nat.le_refl _) (Nat.le_refl _) ?_
      exact ⟨by rw [e6]; rfl, rfl, rfl⟩
    ·
      have hin : i < nw tx tn := by
        rcases Nat.lt_or_ge i (nw tx tn) with h1 | h1
        · exact h1
        · have h2 : beg tx tn i = tn + 1 := by
            rw [show i = nw tx tn by omega]
            exact beg_nw hok.1
          omega
      have hbn := beg_next hok.1 hin
      obtain ⟨b, eb⟩ : ∃ b, b = beg tx tn i := ⟨_, rfl⟩
      rw [← eb] at b9 hbn ⊢
      refine v_iload_n dX8_hasTold_12 rfl ?_
      refine v_if_neN (tgt := 207) dX8_hasTold_13 (by decide) (by decide) (fun z => absurd z (by decide)) (fun _ => ?_)
      have KKN : V mX8_hasTold 0 0 0 (fun r' w' zz => r' = some (.int (b2i (hsT (sft σ (l + 4)) n tx tn))) ∧ w' = w ∧ zz = sz) (w) (sz) (0) (0) [some (.ref o), some (.int (nI l)), some (.int (nI 0)), some (.int (nI b)), some (.int (nI (enn tx tn b))), none, none, none] [] 46 := by
        obtain ⟨e, ee⟩ : ∃ e, e = enn tx tn b := ⟨_, rfl⟩
        have hbe := enn_le (f := tx) (n := tn) (b := b) (by omega)
        rw [← ee] at hbe ⊢
        have EX : ∀ k, k ≤ n + 1 → hsT (sft σ (l + 4)) n tx tn = true → V mX8_hasTold 0 0 0 (fun r' w' zz => r' = some (.int (b2i (hsT (sft σ (l + 4)) n tx tn))) ∧ w' = w ∧ zz = sz) (w) (sz) (0) (0) [some (.ref o), some (.int (nI l)), some (.int (nI 1)), some (.int (nI b)), some (.int (nI e)), some (.int (nI k)), none, none] [] 49 := by
          intro k hk hT
          refine v_iload dX8_hasTold_49 rfl ?_
          refine v_iload dX8_hasTold_51 rfl ?_
          refine v_iaddN dX8_hasTold_53 ?_
          refine v_iload_n dX8_hasTold_54 rfl ?_
          refine v_isubN dX8_hasTold_55 (by omega) ?_
          refine v_aload_n dX8_hasTold_56 rfl ?_
          refine v_get 0 dX8_hasTold_57 FTX8 (by decide) rfl fl_X8_7 hM.1 rfl ?_
          refine v_iload_n dX8_hasTold_60 rfl ?_
          refine v_ialdN _ dX8_hasTold_61 hM.2.1 rfl (by omega) (by decide) hn.1 ?_
          refine v_icmp_gtN (tgt := 199) dX8_hasTold_62 (by decide) (by omega) (by omega) (fun b62 => ?_) (fun b62 => ?_)
          ·
            refine v_iload dX8_hasTold_199 rfl ?_
            refine v_iconst (v := nI 1) dX8_hasTold_201 (by decide) ?_
            refine v_iaddN dX8_hasTold_202 ?_
            refine v_istore_n dX8_hasTold_203 (by decide) rfl ?_
            refine v_goto (tgt := 4) dX8_hasTold_204 (by decide) ?_
            refine v_iload_n dX8_hasTold_4 rfl ?_
            refine v_aload_n dX8_hasTold_5 rfl ?_
            refine v_get 4 dX8_hasTold_6 FTX8 (by decide) rfl fl_X8_56 hM.1 rfl ?_
            refine v_icmp_geN (tgt := 207) dX8_hasTold_9 (by decide) (by omega) (by omega) (fun b9 => ?_) (fun b9 => ?_)
            ·
              refine v_iload_n dX8_hasTold_207 rfl ?_
              refine v_zret dX8_hasTold_208 rfl (by decide) (Nat.le_refl _) (Nat.le_refl _) ?_
              exact ⟨by rw [hT]; rfl, rfl, rfl⟩
            ·
              refine v_iload_n dX8_hasTold_12 rfl ?_
              refine v_if_neN (tgt := 207) dX8_hasTold_13 (by decide) (by decide) (fun _ => ?_) (fun z => absurd z (by decide))
              refine v_iload_n dX8_hasTold_207 rfl ?_
              refine v_zret dX8_hasTold_208 rfl (by decide) (Nat.le_refl _) (Nat.le_refl _) ?_
              exact ⟨by rw [hT]; rfl, rfl, rfl⟩
          ·
            refine v_iload_n dX8_hasTold_65 rfl ?_
            refine v_if_neN (tgt := 199) dX8_hasTold_66 (by decide) (by decide) (fun _ => ?_) (fun z => absurd z (by decide))
            refine v_iload dX8_hasTold_199 rfl ?_
            refine v_iconst (v := nI 1) dX8_hasTold_201 (by decide) ?_
            refine v_iaddN dX8_hasTold_202 ?_
            refine v_istore_n dX8_hasTold_203 (by decide) rfl ?_
            refine v_goto (tgt := 4) dX8_hasTold_204 (by decide) ?_
            refine v_iload_n dX8_hasTold_4 rfl ?_
            refine v_aload_n dX8_hasTold_5 rfl ?_
            refine v_get 4 dX8_hasTold_6 FTX8 (by decide) rfl fl_X8_56 hM.1 rfl ?_
            refine v_icmp_geN (tgt := 207) dX8_hasTold_9 (by decide) (by omega) (by omega) (fun b9 => ?_) (fun b9 => ?_)
            ·
              refine v_iload_n dX8_hasTold_207 rfl ?_
              refine v_zret dX8_hasTold_208 rfl (by decide) (Nat.le_refl _) (Nat.le_refl _) ?_
              exact ⟨by rw [hT]; rfl, rfl, rfl⟩
            ·
              refine v_iload_n dX8_hasTold_12 rfl ?_
              refine v_if_neN (tgt := 207) dX8_hasTold_13 (by decide) (by decide) (fun _ => ?_) (fun z => absurd z (by decide))
              refine v_iload_n dX8_hasTold_207 rfl ?_
              refine v_zret dX8_hasTold_208 rfl (by decide) (Nat.le_refl _) (Nat.le_refl _) ?_
              exact ⟨by rw [hT]; rfl, rfl, rfl⟩
        refine v_iconst (v := nI 0) dX8_hasTold_46 (by decide) ?_
        refine v_istore dX8_hasTold_47 (by decide) rfl ?_
        have LP49 : ∀ k, k ≤ fst (mtc (sft σ (l + 4)) n tx b e) (n + 1 - (e - b)) → V mX8_hasTold 0 0 0 (fun r' w' zz => r' = some (.int (b2i (hsT (sft σ (l + 4)) n tx tn))) ∧ w' = w ∧ zz = sz) (w) (sz) (0) (0) [some (.ref o), some (.int (nI l)), some (.int (nI 0)), some (.int (nI b)), some (.int (nI e)), some (.int (nI k)), none, none] [] 49 := by
          refine dn (fun k hk ihk => ?_)
          have hfk := fst_le (mtc (sft σ (l + 4)) n tx b e) (n + 1 - (e - b))
          refine v_iload dX8_hasTold_49 rfl ?_
          refine v_iload dX8_hasTold_51 rfl ?_
          refine v_iaddN dX8_hasTold_53 ?_
          refine v_iload_n dX8_hasTold_54 rfl ?_
          refine v_isubN dX8_hasTold_55 (by omega) ?_
          refine v_aload_n dX8_hasTold_56 rfl ?_
          refine v_get 0 dX8_hasTold_57 FTX8 (by decide) rfl fl_X8_7 hM.1 rfl ?_
          refine v_iload_n dX8_hasTold_60 rfl ?_
          refine v_ialdN _ dX8_hasTold_61 hM.2.1 rfl (by omega) (by decide) hn.1 ?_
          refine v_icmp_gtN (tgt := 199) dX8_hasTold_62 (by decide) (by omega) (by omega) (fun b62 => ?_) (fun b62 => ?_)
          ·
            have q6 : whI (sft σ (l + 4)) n tx tn i = false := by
              unfold whI whB
              rw [← eb, ← ee, decide_eq_false_iff_not]
              omega
            have q9 : i < fst (whI (sft σ (l + 4)) n tx tn) (nw tx tn) := by
              rcases Nat.lt_or_ge i (fst (whI (sft σ (l + 4)) n tx tn) (nw tx tn)) with h2 | h2
              · exact h2
              · have h3 := fst_yes (whI (sft σ (l + 4)) n tx tn) (nw tx tn) (by omega)
                rw [show fst (whI (sft σ (l + 4)) n tx tn) (nw tx tn) = i by omega, q6] at h3
                cases h3
            refine v_iload dX8_hasTold_199 rfl ?_
            refine v_iconst (v := nI 1) dX8_hasTold_201 (by decide) ?_
            refine v_iaddN dX8_hasTold_202 ?_
            refine v_istore_n dX8_hasTold_203 (by decide) rfl ?_
            refine v_goto (tgt := 4) dX8_hasTold_204 (by decide) ?_
            refine v_drop 4 ?_
            refine v_drop 5 ?_
            refine v_eqL ?_ (ihi q9)
            rw [hbn, ee]
            rfl
          ·
            have hfound : mtc (sft σ (l + 4)) n tx b e k = true → hsT (sft σ (l + 4)) n tx tn = true := by
              intro h
              have h1 : whI (sft σ (l + 4)) n tx tn i = true := by
                unfold whI whB
                rw [← eb, ← ee]
                rw [decide_eq_true_eq]
                rcases Nat.lt_or_ge (fst (mtc (sft σ (l + 4)) n tx b e) (n + 1 - (e - b))) (n + 1 - (e - b)) with h2 | h2
                · exact h2
                · have := fst_no (mtc (sft σ (l + 4)) n tx b e) (n + 1 - (e - b)) k (by omega)
                  rw [h] at this
                  cases this
              unfold hsT
              rw [decide_eq_true_eq]
              rcases Nat.lt_or_ge (fst (whI (sft σ (l + 4)) n tx tn) (nw tx tn)) (nw tx tn) with h2 | h2
              · exact h2
              · have := fst_no (whI (sft σ (l + 4)) n tx tn) (nw tx tn) i (by omega)
                rw [h1] at this
                cases this
            have hnext : mtc (sft σ (l + 4)) n tx b e k = false → k < fst (mtc (sft σ (l + 4)) n tx b e) (n + 1 - (e - b)) := by
              intro h
              rcases Nat.lt_or_ge k (fst (mtc (sft σ (l + 4)) n tx b e) (n + 1 - (e - b))) with h2 | h2
              · exact h2
              · have h3 := fst_yes (mtc (sft σ (l + 4)) n tx b e) (n + 1 - (e - b)) (by omega)
                rw [show fst (mtc (sft σ (l + 4)) n tx b e) (n + 1 - (e - b)) = k by omega, h] at h3
                cases h3
            have JN : ∀ x, x = mtc (sft σ (l + 4)) n tx b e k → V mX8_hasTold 0 0 0 (fun r' w' zz => r' = some (.int (b2i (hsT (sft σ (l + 4)) n tx tn))) ∧ w' = w ∧ zz = sz) (w) (sz) (0) (0) [some (.ref o), some (.int (nI l)), some (.int (nI 0)), some (.int (nI b)), some (.int (nI e)), some (.int (nI k)), some (.int (b2i x)), none] [] 190 := by
              intro x hx
              cases x with
              | true =>
                refine v_iload dX8_hasTold_190 rfl ?_
                refine v_istore_n dX8_hasTold_192 (by decide) rfl ?_
                refine v_iincN dX8_hasTold_193 (by decide) rfl rfl rfl ?_
                refine v_goto (tgt := 49) dX8_hasTold_196 (by decide) ?_
                refine v_drop 6 ?_
                exact EX (k + 1) (by omega) (hfound hx.symm)
              | false =>
                refine v_iload dX8_hasTold_190 rfl ?_
                refine v_istore_n dX8_hasTold_192 (by decide) rfl ?_
                refine v_iincN dX8_hasTold_193 (by decide) rfl rfl rfl ?_
                refine v_goto (tgt := 49) dX8_hasTold_196 (by decide) ?_
                refine v_drop 6 ?_
                exact ihk (hnext hx.symm)
            have LC : ∀ c, c ≤ e - b → V mX8_hasTold 0 0 0 (fun r' w' zz => r' = some (.int (b2i (hsT (sft σ (l + 4)) n tx tn))) ∧ w' = w ∧ zz = sz) (w) (sz) (0) (0) [some (.ref o), some (.int (nI l)), some (.int (nI 0)), some (.int (nI b)), some (.int (nI e)), some (.int (nI k)), some (.int (b2i (((decide (k = 0) || bl (sft σ (l + 4)) (k - 1)) && (decide (k + (e - b) = n) || bl (sft σ (l + 4)) (k + (e - b)))) && al (fun c => (sft σ (l + 4)) (k + c) == tx (b + c)) c))), some (.int (nI c))] [] 137 := by
              refine dn (fun c hc ihc => ?_)
              refine v_iload dX8_hasTold_137 rfl ?_
              refine v_iload dX8_hasTold_139 rfl ?_
              refine v_iload_n dX8_hasTold_141 rfl ?_
              refine v_isubN dX8_hasTold_142 (by omega) ?_
              refine v_icmp_geN (tgt := 190) dX8_hasTold_143 (by decide) (by omega) (by omega) (fun b143 => ?_) (fun b143 => ?_)
              ·
                have e9 : c = e - b := by omega
                subst e9
                refine v_drop 7 ?_
                exact JN _ rfl
              ·
                refine v_iload dX8_hasTold_146 rfl ?_
                refine v_if_eqB (tgt := 190) dX8_hasTold_148 (by decide) (fun b148 => ?_) (fun b148 => ?_)
                ·
                  refine v_drop 7 ?_
                  refine JN _ ?_
                  unfold mtc
                  rw [b148]
                  cases h0 : ((decide (k = 0) || bl (sft σ (l + 4)) (k - 1)) && (decide (k + (e - b) = n) || bl (sft σ (l + 4)) (k + (e - b))))
                  · rfl
                  · rw [h0] at b148; exact (al_mono hc b148).symm
                ·
                  have f1 : ((decide (k = 0) || bl (sft σ (l + 4)) (k - 1)) && (decide (k + (e - b) = n) || bl (sft σ (l + 4)) (k + (e - b)))) = true := by
                    cases h0 : ((decide (k = 0) || bl (sft σ (l + 4)) (k - 1)) && (decide (k + (e - b) = n) || bl (sft σ (l + 4)) (k + (e - b))))
                    · rw [h0] at b148; cases b148
                    · rfl
                  have f2 : al (fun c => (sft σ (l + 4)) (k + c) == tx (b + c)) c = true := by rw [f1] at b148; exact b148
                  refine v_aload_n dX8_hasTold_151 rfl ?_
                  refine v_get 0 dX8_hasTold_152 FTX8 (by decide) rfl fl_X8_7 hM.1 rfl ?_
                  refine v_iload_n dX8_hasTold_155 rfl ?_
                  refine v_iconst (v := nI 4) dX8_hasTold_156 (by decide) ?_
                  refine v_iaddN dX8_hasTold_157 ?_
                  refine v_iload dX8_hasTold_158 rfl ?_
                  refine v_iaddN dX8_hasTold_160 ?_
                  refine v_iload dX8_hasTold_161 rfl ?_
                  refine v_iaddN dX8_hasTold_163 ?_
                  refine v_iald _ dX8_hasTold_164 hM.2.1 rfl (by omega) (by decide) ?_
                  refine v_aload_n dX8_hasTold_165 rfl ?_
                  refine v_get 3 dX8_hasTold_166 FTX8 (by decide) rfl fl_X8_13 hM.1 rfl ?_
                  refine v_iload_n dX8_hasTold_169 rfl ?_
                  refine v_iload dX8_hasTold_170 rfl ?_
                  refine v_iaddN dX8_hasTold_172 ?_
                  refine v_cald _ dX8_hasTold_173 hM.2.2.1 rfl (by omega) (by decide) ?_
                  refine v_icmp_ne (tgt := 181) dX8_hasTold_174 (by decide) (fun b174 => ?_) (fun b174 => ?_)
                  ·
                    have f3 : ((sft σ (l + 4)) (k + c) == tx (b + c)) = false := by simp [sft, ← Nat.add_assoc, b174]
                    refine v_iconst (v := nI 0) dX8_hasTold_181 (by decide) ?_
                    refine v_istore dX8_hasTold_182 (by decide) rfl ?_
                    refine v_iincN dX8_hasTold_184 (by decide) rfl rfl rfl ?_
                    refine v_goto (tgt := 137) dX8_hasTold_187 (by decide) ?_
                    refine v_eqL ?_ (ihc (by omega))
                    simp [st, al, b2i, f1, f2, f3]
                  ·
                    have f3 : ((sft σ (l + 4)) (k + c) == tx (b + c)) = true := by simp [sft, ← Nat.add_assoc, b174]
                    refine v_iconst (v := nI 1) dX8_hasTold_177 (by decide) ?_
                    refine v_goto (tgt := 182) dX8_hasTold_178 (by decide) ?_
                    refine v_istore dX8_hasTold_182 (by decide) rfl ?_
                    refine v_iincN dX8_hasTold_184 (by decide) rfl rfl rfl ?_
                    refine v_goto (tgt := 137) dX8_hasTold_187 (by decide) ?_
                    refine v_eqL ?_ (ihc (by omega))
                    simp [st, al, b2i, f1, f2, f3]
            refine v_iload_n dX8_hasTold_65 rfl ?_
            refine v_if_neN (tgt := 199) dX8_hasTold_66 (by decide) (by decide) (fun z => absurd z (by decide)) (fun _ => ?_)
            refine v_iload dX8_hasTold_69 rfl ?_
            refine v_if_eqN (tgt := 90) dX8_hasTold_71 (by decide) (by omega) (fun b71 => ?_) (fun b71 => ?_)
            ·
              have g1 : (decide (k = 0) || bl (sft σ (l + 4)) (k - 1)) = true := by simp [b71]
              refine v_iload dX8_hasTold_90 rfl ?_
              refine v_iload dX8_hasTold_92 rfl ?_
              refine v_iaddN dX8_hasTold_94 ?_
              refine v_iload_n dX8_hasTold_95 rfl ?_
              refine v_isubN dX8_hasTold_96 (by omega) ?_
              refine v_aload_n dX8_hasTold_97 rfl ?_
              refine v_get 0 dX8_hasTold_98 FTX8 (by decide) rfl fl_X8_7 hM.1 rfl ?_
              refine v_iload_n dX8_hasTold_101 rfl ?_
              refine v_ialdN _ dX8_hasTold_102 hM.2.1 rfl (by omega) (by decide) hn.1 ?_
              refine v_icmp_eqN (tgt := 127) dX8_hasTold_103 (by decide) (by omega) (by omega) (fun b103 => ?_) (fun b103 => ?_)
              ·
                have gA : ((decide (k = 0) || bl (sft σ (l + 4)) (k - 1)) && (decide (k + (e - b) = n) || bl (sft σ (l + 4)) (k + (e - b)))) = true := by rw [g1]; simp; omega
                refine v_iconst (v := nI 1) dX8_hasTold_127 (by decide) ?_
                refine v_goto (tgt := 132) dX8_hasTold_128 (by decide) ?_
                refine v_istore dX8_hasTold_132 (by decide) rfl ?_
                refine v_iconst (v := nI 0) dX8_hasTold_134 (by decide) ?_
                refine v_istore dX8_hasTold_135 (by decide) rfl ?_
                refine v_eqL ?_ (LC 0 (Nat.zero_le _))
                simp [st, al, gA, b2i]
              ·
                refine v_aload_n dX8_hasTold_106 rfl ?_
                refine v_get 0 dX8_hasTold_107 FTX8 (by decide) rfl fl_X8_7 hM.1 rfl ?_
                refine v_iload_n dX8_hasTold_110 rfl ?_
                refine v_iconst (v := nI 4) dX8_hasTold_111 (by decide) ?_
                refine v_iaddN dX8_hasTold_112 ?_
                refine v_iload dX8_hasTold_113 rfl ?_
                refine v_iaddN dX8_hasTold_115 ?_
                refine v_iload dX8_hasTold_116 rfl ?_
                refine v_iaddN dX8_hasTold_118 ?_
                refine v_iload_n dX8_hasTold_119 rfl ?_
                refine v_isubN dX8_hasTold_120 (by omega) ?_
                refine v_iald _ dX8_hasTold_121 hM.2.1 rfl (by omega) (by decide) ?_
                refine v_bipush (v := nI 32) dX8_hasTold_122 (by decide) ?_
                refine v_icmp_ne (tgt := 131) dX8_hasTold_124 (by decide) (fun b124 => ?_) (fun b124 => ?_)
                ·
                  have h8 : l + 4 + (k + (e - b)) = l + 4 + k + e - b := by omega
                  have gA : ((decide (k = 0) || bl (sft σ (l + 4)) (k - 1)) && (decide (k + (e - b) = n) || bl (sft σ (l + 4)) (k + (e - b)))) = false := by
                    rw [g1]
                    simp [bl, sft, h8, b124]
                    omega
                  refine v_iconst (v := nI 0) dX8_hasTold_131 (by decide) ?_
                  refine v_istore dX8_hasTold_132 (by decide) rfl ?_
                  refine v_iconst (v := nI 0) dX8_hasTold_134 (by decide) ?_
                  refine v_istore dX8_hasTold_135 (by decide) rfl ?_
                  refine v_eqL ?_ (LC 0 (Nat.zero_le _))
                  simp [st, al, gA, b2i]
                ·
                  have h8 : l + 4 + (k + (e - b)) = l + 4 + k + e - b := by omega
                  have gA : ((decide (k = 0) || bl (sft σ (l + 4)) (k - 1)) && (decide (k + (e - b) = n) || bl (sft σ (l + 4)) (k + (e - b)))) = true := by
                    rw [g1]
                    simp [bl, sft, h8, b124]
                  refine v_iconst (v := nI 1) dX8_hasTold_127 (by decide) ?_
                  refine v_goto (tgt := 132) dX8_hasTold_128 (by decide) ?_
                  refine v_istore dX8_hasTold_132 (by decide) rfl ?_
                  refine v_iconst (v := nI 0) dX8_hasTold_134 (by decide) ?_
                  refine v_istore dX8_hasTold_135 (by decide) rfl ?_
                  refine v_eqL ?_ (LC 0 (Nat.zero_le _))
                  simp [st, al, gA, b2i]
            ·
              refine v_aload_n dX8_hasTold_74 rfl ?_
              refine v_get 0 dX8_hasTold_75 FTX8 (by decide) rfl fl_X8_7 hM.1 rfl ?_
              refine v_iload_n dX8_hasTold_78 rfl ?_
              refine v_iconst (v := nI 3) dX8_hasTold_79 (by decide) ?_
              refine v_iaddN dX8_hasTold_80 ?_
              refine v_iload dX8_hasTold_81 rfl ?_
              refine v_iaddN dX8_hasTold_83 ?_
              refine v_iald _ dX8_hasTold_84 hM.2.1 rfl (by omega) (by decide) ?_
              refine v_bipush (v := nI 32) dX8_hasTold_85 (by decide) ?_
              refine v_icmp_ne (tgt := 131) dX8_hasTold_87 (by decide) (fun b87 => ?_) (fun b87 => ?_)
              ·
                have g1 : (decide (k = 0) || bl (sft σ (l + 4)) (k - 1)) = false := by
                  have h1 : l + 4 + (k - 1) = l + 3 + k := by omega
                  simp [bl, sft, h1, b87]
                  omega
                have gA : ((decide (k = 0) || bl (sft σ (l + 4)) (k - 1)) && (decide (k + (e - b) = n) || bl (sft σ (l + 4)) (k + (e - b)))) = false := by rw [g1]; rfl
                refine v_iconst (v := nI 0) dX8_hasTold_131 (by decide) ?_
                refine v_istore dX8_hasTold_132 (by decide) rfl ?_
                refine v_iconst (v := nI 0) dX8_hasTold_134 (by decide) ?_
                refine v_istore dX8_hasTold_135 (by decide) rfl ?_
                refine v_eqL ?_ (LC 0 (Nat.zero_le _))
                simp [st, al, gA, b2i]
              ·
                have g1 : (decide (k = 0) || bl (sft σ (l + 4)) (k - 1)) = true := by
                  have h1 : l + 4 + (k - 1) = l + 3 + k := by omega
                  simp [bl, sft, h1, b87]
                refine v_iload dX8_hasTold_90 rfl ?_
                refine v_iload dX8_hasTold_92 rfl ?_
                refine v_iaddN dX8_hasTold_94 ?_
                refine v_iload_n dX8_hasTold_95 rfl ?_
                refine v_isubN dX8_hasTold_96 (by omega) ?_
                refine v_aload_n dX8_hasTold_97 rfl ?_
                refine v_get 0 dX8_hasTold_98 FTX8 (by decide) rfl fl_X8_7 hM.1 rfl ?_
                refine v_iload_n dX8_hasTold_101 rfl ?_
                refine v_ialdN _ dX8_hasTold_102 hM.2.1 rfl (by omega) (by decide) hn.1 ?_
                refine v_icmp_eqN (tgt := 127) dX8_hasTold_103 (by decide) (by omega) (by omega) (fun b103 => ?_) (fun b103 => ?_)
                ·
                  have gA : ((decide (k = 0) || bl (sft σ (l + 4)) (k - 1)) && (decide (k + (e - b) = n) || bl (sft σ (l + 4)) (k + (e - b)))) = true := by rw [g1]; simp; omega
                  refine v_iconst (v := nI 1) dX8_hasTold_127 (by decide) ?_
                  refine v_goto (tgt := 132) dX8_hasTold_128 (by decide) ?_
                  refine v_istore dX8_hasTold_132 (by decide) rfl ?_
                  refine v_iconst (v := nI 0) dX8_hasTold_134 (by decide) ?_
                  refine v_istore dX8_hasTold_135 (by decide) rfl ?_
                  refine v_eqL ?_ (LC 0 (Nat.zero_le _))
                  simp [st, al, gA, b2i]
                ·
                  refine v_aload_n dX8_hasTold_106 rfl ?_
                  refine v_get 0 dX8_hasTold_107 FTX8 (by decide) rfl fl_X8_7 hM.1 rfl ?_
                  refine v_iload_n dX8_hasTold_110 rfl ?_
                  refine v_iconst (v := nI 4) dX8_hasTold_111 (by decide) ?_
                  refine v_iaddN dX8_hasTold_112 ?_
                  refine v_iload dX8_hasTold_113 rfl ?_
                  refine v_iaddN dX8_hasTold_115 ?_
                  refine v_iload dX8_hasTold_116 rfl ?_
                  refine v_iaddN dX8_hasTold_118 ?_
                  refine v_iload_n dX8_hasTold_119 rfl ?_
                  refine v_isubN dX8_hasTold_120 (by omega) ?_
                  refine v_iald _ dX8_hasTold_121 hM.2.1 rfl (by omega) (by decide) ?_
                  refine v_bipush (v := nI 32) dX8_hasTold_122 (by decide) ?_
                  refine v_icmp_ne (tgt := 131) dX8_hasTold_124 (by decide) (fun b124 => ?_) (fun b124 => ?_)
                  ·
                    have h8 : l + 4 + (k + (e - b)) = l + 4 + k + e - b := by omega
                    have gA : ((decide (k = 0) || bl (sft σ (l + 4)) (k - 1)) && (decide (k + (e - b) = n) || bl (sft σ (l + 4)) (k + (e - b)))) = false := by
                      rw [g1]
                      simp [bl, sft, h8, b124]
                      omega
                    refine v_iconst (v := nI 0) dX8_hasTold_131 (by decide) ?_
                    refine v_istore dX8_hasTold_132 (by decide) rfl ?_
                    refine v_iconst (v := nI 0) dX8_hasTold_134 (by decide) ?_
                    refine v_istore dX8_hasTold_135 (by decide) rfl ?_
                    refine v_eqL ?_ (LC 0 (Nat.zero_le _))
                    simp [st, al, gA, b2i]
                  ·
                    have h8 : l + 4 + (k + (e - b)) = l + 4 + k + e - b := by omega
                    have gA : ((decide (k = 0) || bl (sft σ (l + 4)) (k - 1)) && (decide (k + (e - b) = n) || bl (sft σ (l + 4)) (k + (e - b)))) = true := by
                      rw [g1]
                      simp [bl, sft, h8, b124]
                    refine v_iconst (v := nI 1) dX8_hasTold_127 (by decide) ?_
                    refine v_goto (tgt := 132) dX8_hasTold_128 (by decide) ?_
                    refine v_istore dX8_hasTold_132 (by decide) rfl ?_
                    refine v_iconst (v := nI 0) dX8_hasTold_134 (by decide) ?_
                    refine v_istore dX8_hasTold_135 (by decide) rfl ?_
                    refine v_eqL ?_ (LC 0 (Nat.zero_le _))
                    simp [st, al, gA, b2i]
        exact LP49 0 (Nat.zero_le _)
      refine v_iload_n dX8_hasTold_16 rfl ?_
      refine v_istore dX8_hasTold_17 (by decide) rfl ?_
      have LP19 : ∀ t, t ≤ fst (fun k => bl tx (b + k)) (tn - b) → V mX8_hasTold 0 0 0 (fun r' w' zz => r' = some (.int (b2i (hsT (sft σ (l + 4)) n tx tn))) ∧ w' = w ∧ zz = sz) (w) (sz) (0) (0) [some (.ref o), some (.int (nI l)), some (.int (nI 0)), some (.int (nI b)), some (.int (nI (b + t))), none, none, none] [] 19 := by
        refine dn (fun t ht iht => ?_)
        have hfe := fst_le (fun k => bl tx (b + k)) (tn - b)
        refine v_iload dX8_hasTold_19 rfl ?_
        refine v_aload_n dX8_hasTold_21 rfl ?_
        refine v_get 4 dX8_hasTold_22 FTX8 (by decide) rfl fl_X8_56 hM.1 rfl ?_
        refine v_icmp_geN (tgt := 46) dX8_hasTold_25 (by decide) (by omega) (by omega) (fun b25 => ?_) (fun b25 => ?_)
        ·
          have q8 : b + t = enn tx tn b := by unfold enn; omega
          have e7 : nI (b + t) = nI (enn tx tn b) := by rw [q8]
          rw [e7]
          exact KKN
        ·
          refine v_aload_n dX8_hasTold_28 rfl ?_
          refine v_get 3 dX8_hasTold_29 FTX8 (by decide) rfl fl_X8_13 hM.1 rfl ?_
          refine v_iload dX8_hasTold_32 rfl ?_
          refine v_cald _ dX8_hasTold_34 hM.2.2.1 rfl (by omega) (by decide) ?_
          refine v_bipush (v := nI 32) dX8_hasTold_35 (by decide) ?_
          refine v_icmp_eq (tgt := 46) dX8_hasTold_37 (by decide) (fun b37 => ?_) (fun b37 => ?_)
          ·
            have q8 : b + t = enn tx tn b := by
              unfold enn
              rcases Nat.lt_or_ge t (fst (fun k => bl tx (b + k)) (tn - b)) with h1 | h1
              · have := fst_no _ _ _ h1
                simp [bl, b37] at this
              · omega
            have e7 : nI (b + t) = nI (enn tx tn b) := by rw [q8]
            rw [e7]
            exact KKN
          ·
            have q7 : t < fst (fun k => bl tx (b + k)) (tn - b) := by
              rcases Nat.lt_or_ge t (fst (fun k => bl tx (b + k)) (tn - b)) with h1 | h1
              · exact h1
              · have h2 := fst_yes (fun k => bl tx (b + k)) (tn - b) (by omega)
                rw [show fst (fun k => bl tx (b + k)) (tn - b) = t by omega] at h2
                simp [bl, b37] at h2
            refine v_iincN dX8_hasTold_40 (by decide) rfl rfl rfl ?_
            refine v_goto (tgt := 19) dX8_hasTold_43 (by decide) ?_
            exact iht q7
      exact LP19 0 (Nat.zero_le _)
  refine v_eqL ?_ (LP4 0 (Nat.zero_le _))
  rw [beg_0]
  rfl
