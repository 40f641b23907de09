/-! How many entries there are; an object of RangeReaders in a map. -/
def cn (en : Nat → Option En) : Nat → Nat
  | 0 => 0
  | n + 1 => cn en n + (if (en n).isSome then 1 else 0)
theorem cn_le (en : Nat → Option En) : ∀ n, cn en n ≤ n
  | 0 => Nat.le_refl 0
  | n + 1 => by
    have := cn_le en n
    unfold cn
    split <;> omega
theorem cn_ext {en en' : Nat → Option En} : ∀ (n : Nat), (∀ j, j < n → (en j).isSome = (en' j).isSome) → cn en n = cn en' n
  | 0, _ => rfl
  | n + 1, h => by
    unfold cn
    rw [cn_ext n (fun j hj => h j (by omega)), h n (by omega)]
theorem cn_add {en : Nat → Option En} {i : Nat} {e : En} (h0 : en i = none) : ∀ (n : Nat), i < n → cn (va_up en i (some e)) n = cn en n + 1
  | 0, h => absurd h (Nat.not_lt_zero _)
  | n + 1, h => by
    by_cases hi : i = n
    · subst hi
      have e1 : cn (va_up en i (some e)) i = cn en i := cn_ext i (fun j hj => by rw [va_up_ne _ _ (by omega)])
      unfold cn
      rw [e1, va_up_self, h0]
      simp
    · have := cn_add (e := e) h0 n (by omega)
      unfold cn
      rw [this, va_up_ne _ _ (by omega)]
      omega
theorem cn_del {en : Nat → Option En} {i : Nat} {e : En} (h0 : en i = some e) : ∀ (n : Nat), i < n → cn (va_up en i none) n + 1 = cn en n
  | 0, h => absurd h (Nat.not_lt_zero _)
  | n + 1, h => by
    by_cases hi : i = n
    · subst hi
      have e1 : cn (va_up en i none) i = cn en i := cn_ext i (fun j hj => by rw [va_up_ne _ _ (by omega)])
      unfold cn
      rw [e1, va_up_self, h0]
      simp
    · have := cn_del h0 n (by omega)
      unfold cn
      rw [va_up_ne _ _ (by omega)]
      omega
theorem cn_same {en : Nat → Option En} {i : Nat} {e e' : En} (h0 : en i = some e) (n : Nat) : cn (va_up en i (some e')) n = cn en n := cn_ext n (fun j _ => by
  by_cases hj : j = i
  · subst hj; rw [va_up_self, h0]; rfl
  · rw [va_up_ne _ _ hj])
theorem cn_full {en : Nat → Option En} : ∀ (n : Nat), (∀ j, j < n → en j ≠ none) → cn en n = n
  | 0, _ => rfl
  | n + 1, h => by
    unfold cn
    rw [cn_full n (fun j hj => h j (by omega))]
    cases hn : en n with
    | none => exact absurd hn (h n (by omega))
    | some e => simp
theorem cn_none {en : Nat → Option En} {n : Nat} (h : ∀ j, n ≤ j → en j = none) : ∀ m, n ≤ m → cn en m = cn en n := by
  intro m hm
  induction m with
  | zero => rw [show n = 0 by omega]
  | succ m ih =>
    by_cases e : n = m + 1
    · rw [e]
    · show cn en m + (if (en m).isSome then 1 else 0) = cn en n
      rw [h m (by omega), ih (by omega)]
      simp
theorem cn_all {en : Nat → Option En} : ∀ (n : Nat), cn en n = n → ∀ j, j < n → en j ≠ none
  | 0, _, j, hj => absurd hj (Nat.not_lt_zero _)
  | n + 1, h, j, hj => by
    have h1 := cn_le en n
    unfold cn at h
    cases hn : en n with
    | none => rw [hn] at h; simp at h; omega
    | some e =>
      rw [hn] at h
      simp at h
      by_cases e2 : j = n
      · rw [e2, hn]; exact fun z => by cases z
      · exact cn_all n h j (by omega)
theorem rf_or (o : Option Nat) : va_rf o = .null ∨ ∃ a, va_rf o = .ref a := by
  cases o with
  | none => exact Or.inl rfl
  | some a => exact Or.inr ⟨a, rfl⟩
abbrev tyl (cI cN cZ cJ : ClassId) : List (ClassId × FieldType) := [(cI, .int), (cN, .object "RangeReaders$Entry"), (cZ, .boolean), (cJ, .long)]
abbrev cRR (q : Option Nat) (hE : Nat) (held : Int32) (hM : Nat) (mc : Int32) : va_E := .inr (2, [va_rf q, .ref hE, .int held, .ref hM, .int mc])
abbrev aE (cN : ClassId) (n : Nat) (g : Nat → Option Nat) : va_E := .inl (cN, n, .inr (.inr (.inr (.inr g))))
abbrev aI (cI : ClassId) (n : Nat) (g : Nat → Int32) : va_E := .inl (cI, n, .inl g)
/-- an entry's place: null, or an Entry with its Area -/
def rpe (f : gm) (o : Option Nat) (a : Nat) (e : Option En) : Prop := match e with
  | none => o = none
  | some e => ∃ q, o = some q ∧ f q = some (cEn a e.2) ∧ f a = some (cAr e.1)
/-- the next rectangle -/
def rpn (f : gm) (q : Option Nat) (nx : Option Rc) : Prop := match nx with
  | none => q = none
  | some r => ∃ a, q = some a ∧ f a = some (cAr r)
/-- an object of RangeReaders: its cells by their addresses, what it stands for -/
def rpw (cI cN : ClassId) (f : gm) (x : Nat) (nx : Option Rc) (en : Nat → Option En) (n : Nat) (ml : List Nat) (q : Option Nat) (hE hM k : Nat) (g : Nat → Option Nat) (mf : Nat → Int32) (ar : Nat → Nat) : Prop :=
  (f x = some (cRR q hE (nI (cn en n)) hM (nI ml.length)) ∧ f hE = some (aE cN n g) ∧ f hM = some (aI cI k mf)) ∧
  (rpn f q nx ∧ ∀ i, i < n → rpe f (g i) (ar i) (en i)) ∧
  ((∀ i j, i < n → j < n → en i ≠ none → en j ≠ none → ar i = ar j → i = j) ∧ (∀ i, i < n → en i ≠ none → q ≠ some (ar i))) ∧
  ((∀ i, n ≤ i → en i = none) ∧ n ≤ 1024 ∧ k ≤ 1024 ∧ 1 ≤ n) ∧
  (ml.length ≤ k ∧ ∀ j, j < ml.length → mf j = nI (ml.getD j 0))
def Rp (cI cN : ClassId) (f : gm) (x : Nat) (nx : Option Rc) (en : Nat → Option En) (n : Nat) (ml : List Nat) : Prop :=
  ∃ (q : Option Nat) (hE hM k : Nat) (g : Nat → Option Nat) (mf : Nat → Int32) (ar : Nat → Nat), rpw cI cN f x nx en n ml q hE hM k g mf ar
section RP
variable {cI cN : ClassId} {f : gm} {x : Nat} {nx : Option Rc} {en : Nat → Option En} {n : Nat} {ml : List Nat} {q : Option Nat} {hE hM k : Nat} {g : Nat → Option Nat} {mf : Nat → Int32} {ar : Nat → Nat}
theorem rpe_none {o : Option Nat} {a : Nat} (h : rpe f o a none) : o = none := h
/-- an entry that is there -/
theorem rpw_at (h : rpw cI cN f x nx en n ml q hE hM k g mf ar) {i : Nat} {e : En} (hi : i < n) (he : en i = some e) : ∃ z, g i = some z ∧ f z = some (cEn (ar i) e.2) ∧ f (ar i) = some (cAr e.1) := by
  have := h.2.1.2 i hi
  rw [he] at this
  exact this
theorem rpw_no (h : rpw cI cN f x nx en n ml q hE hM k g mf ar) {i : Nat} (hi : i < n) (he : en i = none) : g i = none := by
  have := h.2.1.2 i hi
  rw [he] at this
  exact this
theorem rpe_kept {f' : gm} {o : Option Nat} {a : Nat} {e : Option En} (h : rpe f o a e) (hk : ∀ b y, f b = some y → (∃ r, y = cAr r) ∨ (∃ c w, y = cEn c w) → f' b = f b) : rpe f' o a e := by
  cases e with
  | none => exact h
  | some e =>
    obtain ⟨q, h1, h2, h3⟩ := h
    exact ⟨q, h1, (hk q _ h2 (Or.inr ⟨_, _, rfl⟩)).trans h2, (hk a _ h3 (Or.inl ⟨_, rfl⟩)).trans h3⟩
theorem rpn_kept {f' : gm} {q : Option Nat} {nx : Option Rc} (h : rpn f q nx) (hk : ∀ b y, f b = some y → (∃ r, y = cAr r) ∨ (∃ c w, y = cEn c w) → f' b = f b) : rpn f' q nx := by
  cases nx with
  | none => exact h
  | some r =>
    obtain ⟨a, h1, h2⟩ := h
    exact ⟨a, h1, (hk a _ h2 (Or.inl ⟨_, rfl⟩)).trans h2⟩
/-- an entry's rectangle becomes another -/
theorem rpw_area (h : rpw cI cN f x nx en n ml q hE hM k g mf ar) {i : Nat} {e : En} (hi : i < n) (he : en i = some e) (r : Rc) : rpw cI cN (gm_up f (ar i) (cAr r)) x nx (va_up en i (some (r, e.2))) n ml q hE hM k g mf ar := by
  obtain ⟨z, z1, z2, z3⟩ := rpw_at h hi he
  obtain ⟨⟨a1, a2, a3⟩, ⟨b1, b2⟩, ⟨c1, c2⟩, ⟨d1, d2, d3, d4⟩, e1, e2⟩ := h
  have hne : ∀ j, en j ≠ none → va_up en i (some (r, e.2)) j ≠ none → en j ≠ none := fun j hj _ => hj
  have hsome : ∀ j, va_up en i (some (r, e.2)) j ≠ none → en j ≠ none := by
    intro j hj
    by_cases hji : j = i
    · rw [hji, he]; exact fun hh => by cases hh
    · rw [va_up_ne _ _ hji] at hj; exact hj
  refine ⟨⟨?_, ?_, ?_⟩, ⟨?_, ?_⟩, ⟨fun s t hs ht h1 h2 h3 => c1 s t hs ht (hsome s h1) (hsome t h2) h3, fun s hs h1 => c2 s hs (hsome s h1)⟩, ⟨?_, d2, d3, d4⟩, e1, e2⟩
  · rw [gm_up_ne (gm_ne a1 z3 (by simp)), cn_same he]; exact a1
  · rw [gm_up_ne (gm_ne a2 z3 (by simp))]; exact a2
  · rw [gm_up_ne (gm_ne a3 z3 (by simp))]; exact a3
  · cases nx with
    | none => exact b1
    | some r0 =>
      obtain ⟨a, h1, h2⟩ := b1
      exact ⟨a, h1, by rw [gm_up_ne (fun hh => c2 i hi (by rw [he]; exact fun hh => by cases hh) (by rw [h1, hh]))]; exact h2⟩
  · intro j hj
    by_cases hji : j = i
    · subst hji
      rw [va_up_self]
      exact ⟨z, z1, by rw [gm_up_ne (gm_ne z2 z3 (by simp))]; exact z2, gm_up_self⟩
    · rw [va_up_ne _ _ hji]
      cases hej : en j with
      | none => have := b2 j hj; rw [hej] at this; exact this
      | some ej =>
        have := b2 j hj
        rw [hej] at this
        obtain ⟨y, y1, y2, y3⟩ := this
        refine ⟨y, y1, by rw [gm_up_ne (gm_ne y2 z3 (by simp))]; exact y2, ?_⟩
        rw [gm_up_ne (fun hh => hji (c1 j i hj hi (by rw [hej]; exact fun hh => by cases hh) (by rw [he]; exact fun hh => by cases hh) hh))]
        exact y3
  · intro j hj
    rw [va_up_ne _ _ (by omega)]
    exact d1 j hj
/-- an entry goes: its place is null, one less is held -/
theorem rpw_rel (h : rpw cI cN f x nx en n ml q hE hM k g mf ar) {i : Nat} {e : En} (hi : i < n) (he : en i = some e) : rpw cI cN (gm_up (gm_up f hE (aE cN n (va_up g i none))) x (cRR q hE (nI (cn en n) - 1) hM (nI ml.length))) x nx (va_up en i none) n ml q hE hM k (va_up g i none) mf ar := by
  obtain ⟨⟨a1, a2, a3⟩, ⟨b1, b2⟩, ⟨c1, c2⟩, ⟨d1, d2, d3, d4⟩, e1, e2⟩ := h
  have hxE : hE ≠ x := gm_ne a2 a1 (by simp)
  have hk : ∀ b y, f b = some y → (∃ r, y = cAr r) ∨ (∃ c w, y = cEn c w) → gm_up (gm_up f hE (aE cN n (va_up g i none))) x (cRR q hE (nI (cn en n) - 1) hM (nI ml.length)) b = f b := by
    intro b y hb hy
    rw [gm_up_ne (gm_ne hb a1 (by rcases hy with ⟨r, rfl⟩ | ⟨c, w, rfl⟩ <;> simp)), gm_up_ne (gm_ne hb a2 (by rcases hy with ⟨r, rfl⟩ | ⟨c, w, rfl⟩ <;> simp))]
  have hsome : ∀ j, va_up en i none j ≠ none → en j ≠ none := by
    intro j hj
    by_cases hji : j = i
    · rw [hji, va_up_self] at hj; exact absurd rfl hj
    · rw [va_up_ne _ _ hji] at hj; exact hj
  refine ⟨⟨?_, ?_, ?_⟩, ⟨rpn_kept b1 hk, ?_⟩, ⟨fun s t hs ht h1 h2 h3 => c1 s t hs ht (hsome s h1) (hsome t h2) h3, fun s hs h1 => c2 s hs (hsome s h1)⟩, ⟨?_, d2, d3, d4⟩, e1, e2⟩
  · rw [gm_up_self, ← cn_del he n hi, nI_pred]
  · rw [gm_up_ne hxE, gm_up_self]
  · by_cases hh : hM = hE
    · exfalso
      rw [hh, a2] at a3
      simp at a3
    · rw [gm_up_ne (gm_ne a3 a1 (by simp)), gm_up_ne hh]; exact a3
  · intro j hj
    by_cases hji : j = i
    · subst hji
      rw [va_up_self, va_up_self]
      exact rfl
    · rw [va_up_ne _ _ hji, va_up_ne _ _ hji]
      exact rpe_kept (b2 j hj) hk
  · intro j hj
    rw [va_up_ne _ _ (by omega)]
    exact d1 j hj
/-- the next rectangle is another, in a new cell -/
theorem rpw_next (h : rpw cI cN f x nx en n ml q hE hM k g mf ar) {a : Nat} (ha : f a = none) (r : Rc) : rpw cI cN (gm_up (gm_up f a (cAr r)) x (cRR (some a) hE (nI (cn en n)) hM (nI ml.length))) x (some r) en n ml (some a) hE hM k g mf ar := by
  obtain ⟨⟨a1, a2, a3⟩, ⟨b1, b2⟩, ⟨c1, c2⟩, ⟨d1, d2, d3, d4⟩, e1, e2⟩ := h
  have hn : ∀ b y, f b = some y → b ≠ a := fun b y hb hh => by rw [hh, ha] at hb; cases hb
  have hk : ∀ b y, f b = some y → (∃ r, y = cAr r) ∨ (∃ c w, y = cEn c w) → gm_up (gm_up f a (cAr r)) x (cRR (some a) hE (nI (cn en n)) hM (nI ml.length)) b = f b := by
    intro b y hb hy
    rw [gm_up_ne (gm_ne hb a1 (by rcases hy with ⟨r, rfl⟩ | ⟨c, w, rfl⟩ <;> simp)), gm_up_ne (hn b y hb)]
  refine ⟨⟨gm_up_self, ?_, ?_⟩, ⟨⟨a, rfl, ?_⟩, fun j hj => rpe_kept (b2 j hj) hk⟩, ⟨c1, fun j hj h1 h2 => ?_⟩, ⟨d1, d2, d3, d4⟩, e1, e2⟩
  · rw [gm_up_ne (gm_ne a2 a1 (by simp)), gm_up_ne (hn _ _ a2)]; exact a2
  · rw [gm_up_ne (gm_ne a3 a1 (by simp)), gm_up_ne (hn _ _ a3)]; exact a3
  · rw [gm_up_ne (fun hh => hn _ _ a1 hh.symm), gm_up_self]
  · cases hej : en j with
    | none => exact h1 hej
    | some ej =>
      have := b2 j hj
      rw [hej] at this
      obtain ⟨y, y1, y2, y3⟩ := this
      cases h2
      rw [ha] at y3
      cases y3
end RP
