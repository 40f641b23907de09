section RP2
variable {cI cN : ClassId} {f : gm} {x : Nat} {nx : Option Rc} {en : Nat → Option En} {n : Nat} {ml : List Nat} {q : Option Nat} {hE hM k : Nat} {g : Nat → Option Nat} {mf : Nat → Int32} {ar : Nat → Nat}
/-- what was met is another list, in the same row or another -/
theorem rpw_upd {f1 : gm} {ml' : List Nat} {hM' k' : Nat} {mf' : Nat → Int32} (h : rpw cI cN f x nx en n ml q hE hM k g mf ar) (h1 : f1 x = some (cRR q hE (nI (cn en n)) hM' (nI ml'.length))) (h2 : f1 hE = some (aE cN n g)) (h3 : f1 hM' = some (aI cI k' mf')) (hk : ∀ b y, f b = some y → (∃ r, y = cAr r) ∨ (∃ c w, y = cEn c w) → f1 b = f b) (h4 : k' ≤ 1024) (h5 : ml'.length ≤ k') (h6 : ∀ j, j < ml'.length → mf' j = nI (ml'.getD j 0)) : rpw cI cN f1 x nx en n ml' q hE hM' k' g mf' ar := by
  obtain ⟨⟨a1, a2, a3⟩, ⟨b1, b2⟩, ⟨c1, c2⟩, ⟨d1, d2, d3, d4⟩, e1, e2⟩ := h
  exact ⟨⟨h1, h2, h3⟩, ⟨rpn_kept b1 hk, fun j hj => rpe_kept (b2 j hj) hk⟩, ⟨c1, c2⟩, ⟨d1, d2, h4, d4⟩, h5, h6⟩
theorem rpw_met0 (h : rpw cI cN f x nx en n ml q hE hM k g mf ar) : rpw cI cN (gm_up f x (cRR q hE (nI (cn en n)) hM 0)) x nx en n [] q hE hM k g mf ar := by
  obtain ⟨a1, a2, a3⟩ := h.1
  refine rpw_upd h gm_up_self ?_ ?_ ?_ h.2.2.2.1.2.2.1 (Nat.zero_le _) (fun j hj => absurd hj (Nat.not_lt_zero _))
  · rw [gm_up_ne (gm_ne a2 a1 (by simp))]; exact a2
  · rw [gm_up_ne (gm_ne a3 a1 (by simp))]; exact a3
  · intro b y hb hy
    rw [gm_up_ne (gm_ne hb a1 (by rcases hy with ⟨r, rfl⟩ | ⟨c, w, rfl⟩ <;> simp))]
theorem rpw_metN (h : rpw cI cN f x nx en n ml q hE hM k g mf ar) {b : Nat} (hb : f b = none) (mf' : Nat → Int32) : rpw cI cN (gm_up (gm_up f b (aI cI n mf')) x (cRR q hE (nI (cn en n)) b 0)) x nx en n [] q hE b n g mf' ar := by
  obtain ⟨a1, a2, a3⟩ := h.1
  have hn : ∀ c y, f c = some y → c ≠ b := fun c y hc hh => by rw [hh, hb] at hc; cases hc
  refine rpw_upd h gm_up_self ?_ ?_ ?_ h.2.2.2.1.2.1 (Nat.zero_le _) (fun j hj => absurd hj (Nat.not_lt_zero _))
  · rw [gm_up_ne (gm_ne a2 a1 (by simp)), gm_up_ne (hn _ _ a2)]; exact a2
  · rw [gm_up_ne (fun hh => hn _ _ a1 hh.symm), gm_up_self]
  · intro c y hc hy
    rw [gm_up_ne (gm_ne hc a1 (by rcases hy with ⟨r, rfl⟩ | ⟨c, w, rfl⟩ <;> simp)), gm_up_ne (hn _ _ hc)]
theorem getD_snoc (l : List Nat) (i j : Nat) : (l ++ [i]).getD j 0 = if j < l.length then l.getD j 0 else if j = l.length then i else 0 := by
  by_cases h : j < l.length
  · rw [if_pos h]
    simp [List.getD, List.getElem?_append_left h]
  · rw [if_neg h]
    by_cases h2 : j = l.length
    · subst h2; simp [List.getD]
    · rw [if_neg h2]
      simp [List.getD, List.getElem?_append_right (by omega : l.length ≤ j)]
      have : j - l.length ≠ 0 := by omega
      cases hh : j - l.length with
      | zero => omega
      | succ m => rfl
theorem rpw_metS (h : rpw cI cN f x nx en n ml q hE hM k g mf ar) (i : Nat) (hlen : ml.length < k) : rpw cI cN (gm_up (gm_up f hM (aI cI k (upd mf ml.length (nI i)))) x (cRR q hE (nI (cn en n)) hM (nI ml.length + 1))) x nx en n (ml ++ [i]) q hE hM k g (upd mf ml.length (nI i)) ar := by
  obtain ⟨a1, a2, a3⟩ := h.1
  have h6 := h.2.2.2.2.2
  have hne : hE ≠ hM := gm_ne a2 a3 (by simp)
  refine rpw_upd h ?_ ?_ ?_ ?_ h.2.2.2.1.2.2.1 (by simp; omega) ?_
  · rw [gm_up_self]
    simp only [List.length_append, List.length_singleton, nI_1]
  · rw [gm_up_ne (gm_ne a2 a1 (by simp)), gm_up_ne hne]; exact a2
  · rw [gm_up_ne (gm_ne a3 a1 (by simp)), gm_up_self]
  · intro c y hc hy
    rw [gm_up_ne (gm_ne hc a1 (by rcases hy with ⟨r, rfl⟩ | ⟨c, w, rfl⟩ <;> simp)), gm_up_ne (gm_ne hc a3 (by rcases hy with ⟨r, rfl⟩ | ⟨c, w, rfl⟩ <;> simp))]
  · intro j hj
    rw [getD_snoc]
    by_cases h1 : j < ml.length
    · rw [if_pos h1, pk_un (by omega)]; exact h6 j h1
    · have h2 : j = ml.length := by simp at hj; omega
      rw [if_neg h1, if_pos h2, h2, pk_us]
/-- the row of entries becomes twice as long -/
theorem rpw_grow (h : rpw cI cN f x nx en n ml q hE hM k g mf ar) {b : Nat} (hb : f b = none) (hn : n ≤ 512) : rpw cI cN (gm_up (gm_up f b (aE cN (2 * n) (fun j => if j < n then g j else none))) x (cRR q b (nI (cn en n)) hM (nI ml.length))) x nx en (2 * n) ml q b hM k (fun j => if j < n then g j else none) mf ar := by
  obtain ⟨⟨a1, a2, a3⟩, ⟨b1, b2⟩, ⟨c1, c2⟩, ⟨d1, d2, d3, d4⟩, e1, e2⟩ := h
  have hnb : ∀ c y, f c = some y → c ≠ b := fun c y hc hh => by rw [hh, hb] at hc; cases hc
  have hk : ∀ c y, f c = some y → (∃ r, y = cAr r) ∨ (∃ c w, y = cEn c w) → gm_up (gm_up f b (aE cN (2 * n) (fun j => if j < n then g j else none))) x (cRR q b (nI (cn en n)) hM (nI ml.length)) c = f c := by
    intro c y hc hy
    rw [gm_up_ne (gm_ne hc a1 (by rcases hy with ⟨r, rfl⟩ | ⟨c, w, rfl⟩ <;> simp)), gm_up_ne (hnb _ _ hc)]
  have hlt : ∀ j, en j ≠ none → j < n := fun j hj => by
    rcases Nat.lt_or_ge j n with h | h
    · exact h
    · exact absurd (d1 j h) hj
  refine ⟨⟨?_, ?_, ?_⟩, ⟨rpn_kept b1 hk, ?_⟩, ⟨fun i j _ _ h1 h2 h3 => c1 i j (hlt i h1) (hlt j h2) h1 h2 h3, fun i _ h1 => c2 i (hlt i h1) h1⟩, ⟨fun i hi => d1 i (by omega), by omega, d3, by omega⟩, e1, e2⟩
  · rw [gm_up_self, cn_none d1 (2 * n) (by omega)]
  · rw [gm_up_ne (fun hh => hnb _ _ a1 hh.symm), gm_up_self]
  · rw [gm_up_ne (gm_ne a3 a1 (by simp)), gm_up_ne (hnb _ _ a3)]; exact a3
  · intro j hj
    by_cases h1 : j < n
    · simp only [h1, if_true]; exact rpe_kept (b2 j h1) hk
    · simp only [h1, if_false]
      rw [d1 j (by omega)]
      exact rfl
/-- a new entry, with a copy of the next rectangle -/
theorem rpw_add (h : rpw cI cN f x nx en n ml q hE hM k g mf ar) {i a z : Nat} {r : Rc} {w : Int32} (hi : i < n) (he : en i = none) (ha : f a = none) (hz : gm_up f a (cAr r) z = none) : rpw cI cN (gm_up (gm_up (gm_up (gm_up f a (cAr r)) z (cEn a w)) hE (aE cN n (va_up g i (some z)))) x (cRR q hE (nI (cn en n) + 1) hM (nI ml.length))) x nx (va_up en i (some (r, w))) n ml q hE hM k (va_up g i (some z)) mf (va_up ar i a) := by
  obtain ⟨⟨a1, a2, a3⟩, ⟨b1, b2⟩, ⟨c1, c2⟩, ⟨d1, d2, d3, d4⟩, e1, e2⟩ := h
  have hna : ∀ c y, f c = some y → c ≠ a := fun c y hc hh => by rw [hh, ha] at hc; cases hc
  have hza : z ≠ a := fun hh => by rw [hh, gm_up_self] at hz; cases hz
  have hfz : f z = none := by rw [gm_up_ne hza] at hz; exact hz
  have hnz : ∀ c y, f c = some y → c ≠ z := fun c y hc hh => by rw [hh, hfz] at hc; cases hc
  have hxE : hE ≠ x := gm_ne a2 a1 (by simp)
  have hk : ∀ c y, f c = some y → (∃ r, y = cAr r) ∨ (∃ c w, y = cEn c w) → gm_up (gm_up (gm_up (gm_up f a (cAr r)) z (cEn a w)) hE (aE cN n (va_up g i (some z)))) x (cRR q hE (nI (cn en n) + 1) hM (nI ml.length)) c = f c := by
    intro c y hc hy
    rw [gm_up_ne (gm_ne hc a1 (by rcases hy with ⟨r, rfl⟩ | ⟨c, w, rfl⟩ <;> simp)), gm_up_ne (gm_ne hc a2 (by rcases hy with ⟨r, rfl⟩ | ⟨c, w, rfl⟩ <;> simp)), gm_up_ne (hnz _ _ hc), gm_up_ne (hna _ _ hc)]
  have har : ∀ j, j < n → en j ≠ none → f (ar j) ≠ none := by
    intro j hj hn
    cases hej : en j with
    | none => exact absurd hej hn
    | some ej =>
      have := b2 j hj
      rw [hej] at this
      obtain ⟨y, y1, y2, y3⟩ := this
      rw [y3]; exact fun z => by cases z
  have hsome : ∀ j, j ≠ i → va_up en i (some (r, w)) j ≠ none → en j ≠ none := fun j hji hj => by rw [va_up_ne _ _ hji] at hj; exact hj
  refine ⟨⟨?_, ?_, ?_⟩, ⟨rpn_kept b1 hk, ?_⟩, ⟨?_, ?_⟩, ⟨?_, d2, d3, d4⟩, e1, e2⟩
  · rw [gm_up_self, cn_add he n hi, nI_1]
  · rw [gm_up_ne hxE, gm_up_self]
  · rw [gm_up_ne (gm_ne a3 a1 (by simp)), gm_up_ne (gm_ne a3 a2 (by simp)), gm_up_ne (hnz _ _ a3), gm_up_ne (hna _ _ a3)]; exact a3
  · intro j hj
    by_cases hji : j = i
    · subst hji
      rw [va_up_self, va_up_self, va_up_self]
      refine ⟨z, rfl, ?_, ?_⟩
      · rw [gm_up_ne (fun hh => hnz _ _ a1 hh.symm), gm_up_ne (fun hh => hnz _ _ a2 hh.symm), gm_up_self]
      · rw [gm_up_ne (fun hh => hna _ _ a1 hh.symm), gm_up_ne (fun hh => hna _ _ a2 hh.symm), gm_up_ne (Ne.symm hza), gm_up_self]
    · rw [va_up_ne _ _ hji, va_up_ne _ _ hji, va_up_ne _ _ hji]
      exact rpe_kept (b2 j hj) hk
  · intro s t hs ht h1 h2 h3
    by_cases hsi : s = i <;> by_cases hti : t = i
    · omega
    · rw [hsi, va_up_self, va_up_ne _ _ hti] at h3
      exact absurd ha (by rw [h3]; exact har t ht (hsome t hti h2))
    · rw [hti, va_up_self, va_up_ne _ _ hsi] at h3
      exact absurd ha (by rw [← h3]; exact har s hs (hsome s hsi h1))
    · rw [va_up_ne _ _ hsi, va_up_ne _ _ hti] at h3
      exact c1 s t hs ht (hsome s hsi h1) (hsome t hti h2) h3
  · intro s hs h1
    by_cases hsi : s = i
    · rw [hsi, va_up_self]
      intro hh
      cases nx with
      | none => rw [show q = none from b1] at hh; cases hh
      | some r0 =>
        obtain ⟨c, hc1, hc2⟩ := b1
        rw [hc1] at hh
        cases hh
        rw [ha] at hc2
        cases hc2
    · rw [va_up_ne _ _ hsi]
      exact c2 s hs (hsome s hsi h1)
  · intro j hj
    rw [va_up_ne _ _ (by omega)]
    exact d1 j hj
end RP2
