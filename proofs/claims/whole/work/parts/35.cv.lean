/-! The reference's answers, by the same rules; the law's own words. -/
section CV
variable {cI cZ : ClassId} {u : gm} {y : Nat} {nx : Option Rc} {en : Nat → Option En} {ml : List Nat} {v : Option Value}
theorem cvA {wo : Int32} (h : ∃ b, v = some (.int b) ∧ ((∃ r9 i, nx = some r9 ∧ (0 ≤ wo ∧ wo < 16384) ∧ lowE en i ∧ b = nI i ∧ RpM cI cZ u y 0 nx (va_up en i (some (r9, wo))) ml) ∨ ((nx = none ∨ ¬ (0 ≤ wo ∧ wo < 16384)) ∧ RpM cI cZ u y 1 nx en ml))) : ∃ b k en2 ml2, v = some (.int b) ∧ sA nx en ml k b en2 ml2 wo ∧ RpM cI cZ u y k nx en2 ml2 := by
  obtain ⟨b, hv, ⟨r9, i, h1, h2, h3, h4, h5⟩ | ⟨h1, h2⟩⟩ := h
  · exact ⟨b, 0, _, _, hv, Or.inl ⟨r9, i, h1, h2, h3, rfl, h4, rfl, rfl⟩, h5⟩
  · exact ⟨b, 1, _, _, hv, Or.inr ⟨h1, rfl, rfl, rfl⟩, h2⟩
theorem cvR {sh rw co : Int32} (h : ∃ b, v = some (.int b) ∧ ((vc sh rw co ∧ b = nI (mls en (sh, rw, co, rw, co) 4096).length ∧ RpM cI cZ u y 0 nx en (mls en (sh, rw, co, rw, co) 4096)) ∨ (¬ vc sh rw co ∧ RpM cI cZ u y 1 nx en ml))) : ∃ b k en2 ml2, v = some (.int b) ∧ sR en ml k b en2 ml2 sh rw co ∧ RpM cI cZ u y k nx en2 ml2 := by
  obtain ⟨b, hv, ⟨h1, h4, h5⟩ | ⟨h1, h2⟩⟩ := h
  · exact ⟨b, 0, _, _, hv, Or.inl ⟨h1, rfl, h4, rfl, rfl⟩, h5⟩
  · exact ⟨b, 1, _, _, hv, Or.inr ⟨h1, rfl, rfl, rfl⟩, h2⟩
theorem cvT (h : ∃ b, v = some (.int b) ∧ ((∃ r9, nx = some r9 ∧ b = nI (mls en r9 4096).length ∧ RpM cI cZ u y 0 nx en (mls en r9 4096)) ∨ (nx = none ∧ RpM cI cZ u y 1 nx en ml))) : ∃ b k en2 ml2, v = some (.int b) ∧ sT nx en ml k b en2 ml2 ∧ RpM cI cZ u y k nx en2 ml2 := by
  obtain ⟨b, hv, ⟨r9, h1, h4, h5⟩ | ⟨h1, h2⟩⟩ := h
  · exact ⟨b, 0, _, _, hv, Or.inl ⟨r9, h1, rfl, h4, rfl, rfl⟩, h5⟩
  · exact ⟨b, 1, _, _, hv, Or.inr ⟨h1, rfl, rfl, rfl⟩, h2⟩
theorem cvI {sh : Int32} {cs : Bool} {at0 num : Int32} (h : ∃ b, v = some (.int b) ∧ ((vn sh cs at0 num ∧ b = nI (cbE (chI sh cs at0 num) en 4096) ∧ RpM cI cZ u y 0 nx (mapE (phI sh cs at0 num) en) ml) ∨ (¬ vn sh cs at0 num ∧ RpM cI cZ u y 1 nx en ml))) : ∃ b k en2 ml2, v = some (.int b) ∧ sI en ml k b en2 ml2 sh cs at0 num ∧ RpM cI cZ u y k nx en2 ml2 := by
  obtain ⟨b, hv, ⟨h1, h4, h5⟩ | ⟨h1, h2⟩⟩ := h
  · exact ⟨b, 0, _, _, hv, Or.inl ⟨h1, rfl, h4, rfl, rfl⟩, h5⟩
  · exact ⟨b, 1, _, _, hv, Or.inr ⟨h1, rfl, rfl, rfl⟩, h2⟩
theorem cvX {sh : Int32} {cs : Bool} {at0 num : Int32} (h : ∃ b, v = some (.int b) ∧ ((vn sh cs at0 num ∧ b = nI (cbE (chX sh cs at0 num) en 4096) ∧ RpM cI cZ u y 0 nx (mapE (phX sh cs at0 num) en) ml) ∨ (¬ vn sh cs at0 num ∧ RpM cI cZ u y 1 nx en ml))) : ∃ b k en2 ml2, v = some (.int b) ∧ sX en ml k b en2 ml2 sh cs at0 num ∧ RpM cI cZ u y k nx en2 ml2 := by
  obtain ⟨b, hv, ⟨h1, h4, h5⟩ | ⟨h1, h2⟩⟩ := h
  · exact ⟨b, 0, _, _, hv, Or.inl ⟨h1, rfl, h4, rfl, rfl⟩, h5⟩
  · exact ⟨b, 1, _, _, hv, Or.inr ⟨h1, rfl, rfl, rfl⟩, h2⟩
theorem cvM {sh rw co : Int32} (h : ∃ b, v = some (.int b) ∧ ((∃ r9, nx = some r9 ∧ vc sh rw co ∧ vc sh (rM sh (rw - r9.2.1) (co - r9.2.2.1) r9).2.2.2.1 (rM sh (rw - r9.2.1) (co - r9.2.2.1) r9).2.2.2.2 ∧ b = nI (cbE (chM r9 (rM sh (rw - r9.2.1) (co - r9.2.2.1) r9)) en 4096) ∧ RpM cI cZ u y 0 nx (mapE (phM r9 (rM sh (rw - r9.2.1) (co - r9.2.2.1) r9)) en) ml) ∨ ((¬ vc sh rw co ∨ (vc sh rw co ∧ ∃ r9, nx = some r9 ∧ ¬ vc sh (rM sh (rw - r9.2.1) (co - r9.2.2.1) r9).2.2.2.1 (rM sh (rw - r9.2.1) (co - r9.2.2.1) r9).2.2.2.2)) ∧ RpM cI cZ u y 1 nx en ml) ∨ (vc sh rw co ∧ nx = none ∧ RpM cI cZ u y 2 nx en ml))) : ∃ b k en2 ml2, v = some (.int b) ∧ sM nx en ml k b en2 ml2 sh rw co ∧ RpM cI cZ u y k nx en2 ml2 := by
  obtain ⟨b, hv, ⟨r9, h1, h2, h3, h4, h5⟩ | ⟨h1, h2⟩ | ⟨h0, h1, h2⟩⟩ := h
  · exact ⟨b, 0, _, _, hv, Or.inl ⟨r9, h1, h2, h3, rfl, h4, rfl, rfl⟩, h5⟩
  · exact ⟨b, 1, _, _, hv, Or.inr (Or.inl ⟨h1, rfl, rfl, rfl⟩), h2⟩
  · exact ⟨b, 2, _, _, hv, Or.inr (Or.inr ⟨h0, h1, rfl, rfl, rfl⟩), h2⟩
end CV
theorem gm_fr_sub {f g : gm} (hg : ∀ a x, g a = some x → f a = some x) : gm_fr f g g = f := by
  funext q
  unfold gm_fr
  cases hq : g q with
  | none =>
    cases hf : f q with
    | none => simp
    | some z => simp
  | some z => rw [hg q z hq]; simp
theorem lcmp_0 {g2 : Nat → Int64} {a b : Int32} (h : g2 0 = a.toInt64) (e : b = a) : lg_cmp (g2 (0 : Int32).toNatClampNeg) b.toInt64 = 0 := by
  rw [show (0 : Int32).toNatClampNeg = 0 from by decide, h, e]
  unfold lg_cmp
  rw [if_neg (Int64.lt_irrefl), if_pos rfl]
/-- what stands fixed in the law's walk -/
def lC (p : Program) (l : Launch) (s : State) (m : MethodId) (c : Code) (D : va_G) (A : Nat → Prop) (cI cN cZ cJ : ClassId) (b L : Nat) (xs : Nat → Int32) : Prop :=
  gx p m c code 7 s #[.ref b] gW "RangeReadersLaw" D vwCl (tyl cI cN cZ cJ) A ∧ gk_E D (tyl cI cN cZ cJ) s ∧ gk_E2 s ∧ gz A s s.heap ∧ va_X b L xs s s.heap ∧ b < s.heap.size ∧ ¬ A b ∧ l.stackTraces = false
def lI (i : Int32) (L : Nat) : Prop := vp_in i L ∧ vp_in (i + 1) L ∧ vp_in (i + 2) L ∧ vp_in (i + 3) L ∧ vp_in (i + 4) L ∧ vp_in (i + 5) L
