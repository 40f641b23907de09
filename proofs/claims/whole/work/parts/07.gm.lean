/-! A world as a map from addresses to cells: no places, no frame to put back; a contract says what the map is behind the call. -/
abbrev gm : Type := Nat → Option va_E
def gm_up (f : gm) (a : Nat) (x : va_E) : gm := fun q => if q = a then some x else f q
theorem gm_up_self {f : gm} {a : Nat} {x : va_E} : gm_up f a x a = some x := if_pos rfl
theorem gm_up_ne {f : gm} {a b : Nat} {x : va_E} (h : b ≠ a) : gm_up f a x b = f b := if_neg h
theorem gm_up_of {f : gm} {a b : Nat} {x y : va_E} (hb : f b = some y) (ha : f a = none) : gm_up f a x b = some y := by
  rw [gm_up_ne (fun e => by rw [e, ha] at hb; cases hb)]; exact hb
def gm_hp (D : va_G) (cl : List vw_C) (A : Nat → Prop) (f : gm) (H : Heap) : Prop := ∀ (a : Nat) (x : va_E), f a = some x → va_at D cl (a, x) H ∧ A a
def gm_l (f : gm) (n : Nat) : va_W := (List.range n).filterMap (fun a => (f a).map (fun x => (a, x)))
theorem gm_l_mem {f : gm} {n a : Nat} {x : va_E} : (a, x) ∈ gm_l f n ↔ a < n ∧ f a = some x := by
  simp only [gm_l, List.mem_filterMap, List.mem_range, Option.map_eq_some_iff]
  constructor
  · rintro ⟨b, hb, y, hy, e⟩
    cases e
    exact ⟨hb, hy⟩
  · rintro ⟨h1, h2⟩
    exact ⟨a, h1, x, h2, rfl⟩
theorem gm_l_succ (f : gm) (n : Nat) : gm_l f (n + 1) = gm_l f n ++ (f n).toList.map (fun x => (n, x)) := by
  unfold gm_l
  rw [List.range_succ, List.filterMap_append]
  congr 1
  cases h : f n <;> simp [h]
theorem gm_apart (f : gm) : ∀ (n i j : Nat) (p q : Nat × va_E), (gm_l f n)[i]? = some p → (gm_l f n)[j]? = some q → p.1 = q.1 → i = j := by
  intro n
  induction n with
  | zero => intro i j p q h; simp [gm_l] at h
  | succ n ih =>
    have key : ∀ (i : Nat) (p : Nat × va_E), (gm_l f (n + 1))[i]? = some p → ((gm_l f n)[i]? = some p ∧ p.1 < n) ∨ (i = (gm_l f n).length ∧ p.1 = n) := by
      intro i p h
      rw [gm_l_succ] at h
      by_cases hl : i < (gm_l f n).length
      · rw [List.getElem?_append_left hl] at h
        obtain ⟨a, x⟩ := p
        exact Or.inl ⟨h, (gm_l_mem.mp (List.mem_of_getElem? h)).1⟩
      · rw [List.getElem?_append_right (by omega)] at h
        cases hf : f n with
        | none => rw [hf] at h; simp at h
        | some x =>
          rw [hf] at h
          have h0 : i - (gm_l f n).length < 1 := by
            have := (List.getElem?_eq_some_iff.mp h).1
            simpa using this
          have h1 : i = (gm_l f n).length := by omega
          subst h1
          simp at h
          exact Or.inr ⟨rfl, by rw [← h]⟩
    intro i j p q hi hj hpq
    rcases key i p hi with ⟨a1, a2⟩ | ⟨a1, a2⟩ <;> rcases key j q hj with ⟨b1, b2⟩ | ⟨b1, b2⟩
    · exact ih i j p q a1 b1 hpq
    · omega
    · omega
    · omega
section GM
variable {D : va_G} {cl : List vw_C} {A : Nat → Prop} {f g : gm} {H H1 : Heap} {a b k n q : Nat} {x y : va_E}
theorem gm_hp.lt (h : gm_hp D cl A f H) (ha : f a = some x) : a < H.size := (h a x ha).1.lt
theorem gm_P (h : gm_hp D cl A f H) : va_P D cl (gm_l f H.size) H := by
  intro k q hk
  obtain ⟨a, x⟩ := q
  exact (h a x (gm_l_mem.mp (List.mem_of_getElem? hk)).2).1
theorem gm_D (h : gm_hp D cl A f H) : va_D A (gm_l f H.size) := ⟨gm_apart f _, fun k q hk => by
  obtain ⟨a, x⟩ := q
  exact (h a x (gm_l_mem.mp (List.mem_of_getElem? hk)).2).2⟩
theorem gm_at (h : gm_hp D cl A f H) (ha : f a = some x) : ∃ k : Nat, (gm_l f H.size)[k]? = some (a, x) := List.getElem?_of_mem (gm_l_mem.mpr ⟨h.lt ha, ha⟩)
theorem gm_one (h : gm_hp D cl A f H) (ha : f a = some x) : va_P D cl [(a, x)] H := by
  intro k q hk
  have hz : k < 1 := (List.getElem?_eq_some_iff.mp hk).1
  rw [show k = 0 by omega] at hk
  cases hk
  exact (h a x ha).1
theorem gm_set (h : gm_hp D cl A f H) (hk : (gm_l f H.size)[k]? = some (a, x)) (hP : va_P D cl ((gm_l f H.size).set k (a, y)) H1) (hD : va_D A ((gm_l f H.size).set k (a, y))) : gm_hp D cl A (gm_up f a y) H1 := by
  have hl := (List.getElem?_eq_some_iff.mp hk).1
  have hka : ((gm_l f H.size).set k (a, y))[k]? = some (a, y) := List.getElem?_set_self hl
  intro b z hb
  by_cases e : b = a
  · subst e
    rw [gm_up_self] at hb
    cases hb
    exact ⟨hP k _ hka, hD.2 k _ hka⟩
  · rw [gm_up_ne e] at hb
    obtain ⟨j, hj⟩ := gm_at h hb
    have hjk : k ≠ j := by
      intro e2
      subst e2
      rw [hk] at hj
      cases hj
      exact e rfl
    have hj' : ((gm_l f H.size).set k (a, y))[j]? = some (b, z) := by rw [List.getElem?_set_ne hjk]; exact hj
    exact ⟨hP j _ hj', hD.2 j _ hj'⟩
theorem gm_push (h : gm_hp D cl A f H) (hP : va_P D cl (gm_l f H.size ++ [(q, y)]) H1) (hD : va_D A (gm_l f H.size ++ [(q, y)])) : f q = none ∧ gm_hp D cl A (gm_up f q y) H1 := by
  have hq : (gm_l f H.size ++ [(q, y)])[(gm_l f H.size).length]? = some (q, y) := by simp
  have hn : f q = none := by
    cases hf : f q with
    | none => rfl
    | some z =>
      obtain ⟨k, hk⟩ := gm_at h hf
      have hl := (List.getElem?_eq_some_iff.mp hk).1
      have hk' : (gm_l f H.size ++ [(q, y)])[k]? = some (q, z) := by rw [List.getElem?_append_left hl]; exact hk
      exact absurd (hD.1 k _ _ _ hk' hq rfl) (Nat.ne_of_lt hl)
  refine ⟨hn, fun b z hb => ?_⟩
  by_cases e : b = q
  · subst e
    rw [gm_up_self] at hb
    cases hb
    exact ⟨hP _ _ hq, hD.2 _ _ hq⟩
  · rw [gm_up_ne e] at hb
    obtain ⟨j, hj⟩ := gm_at h hb
    have hl := (List.getElem?_eq_some_iff.mp hj).1
    have hj' : (gm_l f H.size ++ [(q, y)])[j]? = some (b, z) := by rw [List.getElem?_append_left hl]; exact hj
    exact ⟨hP _ _ hj', hD.2 _ _ hj'⟩
theorem gm_hp.mono {B : Nat → Prop} (h : gm_hp D cl A f H) (hAB : ∀ q, A q → B q) : gm_hp D cl B f H := fun a x ha => ⟨(h a x ha).1, hAB _ (h a x ha).2⟩
end GM
/-- what a call may change: its world's cells, and those that it makes -/
def gm_A (f : gm) (sz : Nat) : Nat → Prop := fun q => f q ≠ none ∨ sz ≤ q
theorem gm_A_in {f : gm} {sz a : Nat} {x : va_E} (h : f a = some x) : gm_A f sz a := Or.inl (by rw [h]; exact fun z => by cases z)
theorem gm_A_none {f : gm} {sz a : Nat} (h : ¬ gm_A f sz a) : f a = none := by
  cases hf : f a with
  | none => rfl
  | some x => exact absurd (gm_A_in hf) h
/-- the map behind a call that saw the part g of f and left g' -/
def gm_fr (f g g' : gm) : gm := fun q => if g q = none ∧ f q ≠ none then f q else g' q
theorem gm_fr_self {f g' : gm} : gm_fr f f g' = g' := by
  funext q
  unfold gm_fr
  rw [if_neg (fun h => h.2 h.1)]
