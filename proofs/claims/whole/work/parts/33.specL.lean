/-! What a call that may throw answers: k (0: an answer a; 1, 2: which throw), and the entries and the numbers behind it. -/
section SL
variable (nx : Option Rc) (en : Nat → Option En) (ml : List Nat) (k a : Int32) (en2 : Nat → Option En) (ml2 : List Nat)
def sA (wo : Int32) : Prop := (∃ r9 i, nx = some r9 ∧ (0 ≤ wo ∧ wo < 16384) ∧ lowE en i ∧ k = 0 ∧ a = nI i ∧ en2 = va_up en i (some (r9, wo)) ∧ ml2 = ml) ∨ ((nx = none ∨ ¬ (0 ≤ wo ∧ wo < 16384)) ∧ k = 1 ∧ en2 = en ∧ ml2 = ml)
def sR (sh rw co : Int32) : Prop := (vc sh rw co ∧ k = 0 ∧ a = nI (mls en (sh, rw, co, rw, co) 4096).length ∧ en2 = en ∧ ml2 = mls en (sh, rw, co, rw, co) 4096) ∨ (¬ vc sh rw co ∧ k = 1 ∧ en2 = en ∧ ml2 = ml)
def sT : Prop := (∃ r, nx = some r ∧ k = 0 ∧ a = nI (mls en r 4096).length ∧ en2 = en ∧ ml2 = mls en r 4096) ∨ (nx = none ∧ k = 1 ∧ en2 = en ∧ ml2 = ml)
def sI (sh : Int32) (cs : Bool) (at0 num : Int32) : Prop := (vn sh cs at0 num ∧ k = 0 ∧ a = nI (cbE (chI sh cs at0 num) en 4096) ∧ en2 = mapE (phI sh cs at0 num) en ∧ ml2 = ml) ∨ (¬ vn sh cs at0 num ∧ k = 1 ∧ en2 = en ∧ ml2 = ml)
def sX (sh : Int32) (cs : Bool) (at0 num : Int32) : Prop := (vn sh cs at0 num ∧ k = 0 ∧ a = nI (cbE (chX sh cs at0 num) en 4096) ∧ en2 = mapE (phX sh cs at0 num) en ∧ ml2 = ml) ∨ (¬ vn sh cs at0 num ∧ k = 1 ∧ en2 = en ∧ ml2 = ml)
def sM (sh rw co : Int32) : Prop := (∃ r9, nx = some r9 ∧ vc sh rw co ∧ vc sh (rM sh (rw - r9.2.1) (co - r9.2.2.1) r9).2.2.2.1 (rM sh (rw - r9.2.1) (co - r9.2.2.1) r9).2.2.2.2 ∧ k = 0 ∧ a = nI (cbE (chM r9 (rM sh (rw - r9.2.1) (co - r9.2.2.1) r9)) en 4096) ∧ en2 = mapE (phM r9 (rM sh (rw - r9.2.1) (co - r9.2.2.1) r9)) en ∧ ml2 = ml) ∨ ((¬ vc sh rw co ∨ (vc sh rw co ∧ ∃ r9, nx = some r9 ∧ ¬ vc sh (rM sh (rw - r9.2.1) (co - r9.2.2.1) r9).2.2.2.1 (rM sh (rw - r9.2.1) (co - r9.2.2.1) r9).2.2.2.2)) ∧ k = 1 ∧ en2 = en ∧ ml2 = ml) ∨ (vc sh rw co ∧ nx = none ∧ k = 2 ∧ en2 = en ∧ ml2 = ml)
end SL
/-- two that answer by the same rule answer the same -/
def sEq (k a k' a' : Int32) (en2 en2' : Nat → Option En) (ml2 ml2' : List Nat) : Prop := k' = k ∧ (k = 0 → a' = a) ∧ en2' = en2 ∧ ml2' = ml2
section SL2
variable {nx : Option Rc} {en : Nat → Option En} {ml : List Nat} {k a k' a' : Int32} {en2 en2' : Nat → Option En} {ml2 ml2' : List Nat} {t : Nat}
theorem i10 : ¬ (1 : Int32) = 0 := by decide
theorem i20 : ¬ (2 : Int32) = 0 := by decide
theorem sA_un {wo : Int32} (h : sA nx en ml k a en2 ml2 wo) (h' : sA nx en ml k' a' en2' ml2' wo) : sEq k a k' a' en2 en2' ml2 ml2' := by
  rcases h with ⟨r9, i, h1, h2, h3, rfl, rfl, rfl, rfl⟩ | ⟨h1, rfl, rfl, rfl⟩ <;> rcases h' with ⟨r9', i', h1', h2', h3', rfl, rfl, rfl, rfl⟩ | ⟨h1', rfl, rfl, rfl⟩
  · have e := low_un h3 h3'
    subst e
    rw [h1] at h1'
    cases h1'
    exact ⟨rfl, fun _ => rfl, rfl, rfl⟩
  · rcases h1' with h | h
    · rw [h1] at h; cases h
    · exact absurd h2 h
  · rcases h1 with h | h
    · rw [h1'] at h; cases h
    · exact absurd h2' h
  · exact ⟨rfl, fun h => absurd h i10, rfl, rfl⟩
theorem sR_un {sh rw co : Int32} (h : sR en ml k a en2 ml2 sh rw co) (h' : sR en ml k' a' en2' ml2' sh rw co) : sEq k a k' a' en2 en2' ml2 ml2' := by
  rcases h with ⟨h1, b1, b2, b3, b4⟩ | ⟨h1, b1, b3, b4⟩ <;> rcases h' with ⟨h1', c1, c2, c3, c4⟩ | ⟨h1', c1, c3, c4⟩
  · exact ⟨c1.trans b1.symm, fun _ => c2.trans b2.symm, c3.trans b3.symm, c4.trans b4.symm⟩
  · exact absurd h1 h1'
  · exact absurd h1' h1
  · exact ⟨c1.trans b1.symm, fun h => absurd (b1.symm.trans h) i10, c3.trans b3.symm, c4.trans b4.symm⟩
theorem sT_un (h : sT nx en ml k a en2 ml2) (h' : sT nx en ml k' a' en2' ml2') : sEq k a k' a' en2 en2' ml2 ml2' := by
  rcases h with ⟨r, h1, b1, b2, b3, b4⟩ | ⟨h1, b1, b3, b4⟩ <;> rcases h' with ⟨r', h1', c1, c2, c3, c4⟩ | ⟨h1', c1, c3, c4⟩
  · have e : r' = r := Option.some.inj (h1'.symm.trans h1)
    rw [e] at c2 c4
    exact ⟨c1.trans b1.symm, fun _ => c2.trans b2.symm, c3.trans b3.symm, c4.trans b4.symm⟩
  · exact absurd (h1.symm.trans h1') (by simp)
  · exact absurd (h1.symm.trans h1') (by simp)
  · exact ⟨c1.trans b1.symm, fun h => absurd (b1.symm.trans h) i10, c3.trans b3.symm, c4.trans b4.symm⟩
theorem sI_un {sh : Int32} {cs : Bool} {at0 num : Int32} (h : sI en ml k a en2 ml2 sh cs at0 num) (h' : sI en ml k' a' en2' ml2' sh cs at0 num) : sEq k a k' a' en2 en2' ml2 ml2' := by
  rcases h with ⟨h1, b1, b2, b3, b4⟩ | ⟨h1, b1, b3, b4⟩ <;> rcases h' with ⟨h1', c1, c2, c3, c4⟩ | ⟨h1', c1, c3, c4⟩
  · exact ⟨c1.trans b1.symm, fun _ => c2.trans b2.symm, c3.trans b3.symm, c4.trans b4.symm⟩
  · exact absurd h1 h1'
  · exact absurd h1' h1
  · exact ⟨c1.trans b1.symm, fun h => absurd (b1.symm.trans h) i10, c3.trans b3.symm, c4.trans b4.symm⟩
theorem sX_un {sh : Int32} {cs : Bool} {at0 num : Int32} (h : sX en ml k a en2 ml2 sh cs at0 num) (h' : sX en ml k' a' en2' ml2' sh cs at0 num) : sEq k a k' a' en2 en2' ml2 ml2' := by
  rcases h with ⟨h1, b1, b2, b3, b4⟩ | ⟨h1, b1, b3, b4⟩ <;> rcases h' with ⟨h1', c1, c2, c3, c4⟩ | ⟨h1', c1, c3, c4⟩
  · exact ⟨c1.trans b1.symm, fun _ => c2.trans b2.symm, c3.trans b3.symm, c4.trans b4.symm⟩
  · exact absurd h1 h1'
  · exact absurd h1' h1
  · exact ⟨c1.trans b1.symm, fun h => absurd (b1.symm.trans h) i10, c3.trans b3.symm, c4.trans b4.symm⟩
theorem sM_un {sh rw co : Int32} (h : sM nx en ml k a en2 ml2 sh rw co) (h' : sM nx en ml k' a' en2' ml2' sh rw co) : sEq k a k' a' en2 en2' ml2 ml2' := by
  rcases h with ⟨r, h1, h2, h3, rfl, rfl, rfl, rfl⟩ | ⟨h1, rfl, rfl, rfl⟩ | ⟨h1, h2, rfl, rfl, rfl⟩ <;> rcases h' with ⟨r', h1', h2', h3', rfl, rfl, rfl, rfl⟩ | ⟨h1', rfl, rfl, rfl⟩ | ⟨h1', h2', rfl, rfl, rfl⟩
  · rw [h1] at h1'
    cases h1'
    exact ⟨rfl, fun _ => rfl, rfl, rfl⟩
  · rcases h1' with h | ⟨_, r', hr, hn⟩
    · exact absurd h2 h
    · rw [h1] at hr; cases hr; exact absurd h3 hn
  · rw [h1] at h2'; cases h2'
  · rcases h1 with h | ⟨_, r, hr, hn⟩
    · exact absurd h2' h
    · rw [h1'] at hr; cases hr; exact absurd h3' hn
  · exact ⟨rfl, fun h => absurd h i10, rfl, rfl⟩
  · rcases h1 with h | ⟨_, r, hr, hn⟩
    · exact absurd h1' h
    · rw [h2'] at hr; cases hr
  · rw [h1'] at h2; cases h2
  · rcases h1' with h | ⟨_, r, hr, hn⟩
    · exact absurd h1 h
    · rw [h2] at hr; cases hr
  · exact ⟨rfl, fun h => absurd h i20, rfl, rfl⟩
theorem sA_wf {wo : Int32} (h : sA nx en ml k a en2 ml2 wo) (hw : wf t nx en) : wf (t + 1) nx en2 := by
  rcases h with ⟨r9, i, h1, h2, h3, rfl, rfl, rfl, rfl⟩ | ⟨h1, rfl, rfl, rfl⟩
  · exact wf_add hw h1 h3
  · exact hw.mono (by omega)
theorem sR_wf {sh rw co : Int32} (h : sR en ml k a en2 ml2 sh rw co) (hw : wf t nx en) : wf (t + 1) nx en2 := by
  rcases h with ⟨h1, b1, b2, b3, b4⟩ | ⟨h1, b1, b3, b4⟩
  · rw [b3]; exact hw.mono (by omega)
  · rw [b3]; exact hw.mono (by omega)
theorem sT_wf (h : sT nx en ml k a en2 ml2) (hw : wf t nx en) : wf (t + 1) nx en2 := by
  rcases h with ⟨r, h1, b1, b2, b3, b4⟩ | ⟨h1, b1, b3, b4⟩
  · rw [b3]; exact hw.mono (by omega)
  · rw [b3]; exact hw.mono (by omega)
theorem sI_wf {sh : Int32} {cs : Bool} {at0 num : Int32} (h : sI en ml k a en2 ml2 sh cs at0 num) (hw : wf t nx en) : wf (t + 1) nx en2 := by
  rcases h with ⟨h1, rfl, rfl, rfl, rfl⟩ | ⟨h1, rfl, rfl, rfl⟩
  · exact (wf_I hw h1).mono (by omega)
  · exact hw.mono (by omega)
theorem sX_wf {sh : Int32} {cs : Bool} {at0 num : Int32} (h : sX en ml k a en2 ml2 sh cs at0 num) (hw : wf t nx en) : wf (t + 1) nx en2 := by
  rcases h with ⟨h1, rfl, rfl, rfl, rfl⟩ | ⟨h1, rfl, rfl, rfl⟩
  · exact (wf_X hw h1).mono (by omega)
  · exact hw.mono (by omega)
theorem sM_wf {sh rw co : Int32} (h : sM nx en ml k a en2 ml2 sh rw co) (hw : wf t nx en) : wf (t + 1) nx en2 := by
  rcases h with ⟨r, h1, h2, h3, rfl, rfl, rfl, rfl⟩ | ⟨h1, rfl, rfl, rfl⟩ | ⟨h1, h2, rfl, rfl, rfl⟩
  · exact (wf_M hw h1 h2 h3).mono (by omega)
  · exact hw.mono (by omega)
  · exact hw.mono (by omega)
end SL2
theorem updL_0 (g : Nat → Int64) (x : Int64) : vp_updL g (0 : Int32).toNatClampNeg x 0 = x := if_pos (by decide)
theorem in_01 : vp_in 0 1 := vp_in_nI (n := 0) (by omega) (by omega)
/-! Rows of the law: the script, and a call over a part of the map. -/
section LR
variable {p : Program} {l : Launch} {e : Env} {R : Room} {s : State} {m : MethodId} {args : Array Value} {below : List Frame} {meth : Method} {c : Code} {D : va_G} {A : Nat → Prop} {nL : Nat} {Q : State → Prop} {f g : gm} {nc ns pc : Nat} {lw : List (Option Value)} {st rest : List Value} {cc : ByteArray} {own : String} {tys : List (ClassId × FieldType)} {post : Option Value → gm → Prop}
theorem gj_sld (C : gx p m c cc nL s args gW own D vwCl tys A) {b L : Nat} {xs : Nat → Int32} (hX : va_X b L xs s s.heap) (hbl : b < s.heap.size) (hbA : ¬ A b) {i : Int32} (hin : vp_in i L) (d : decode cc pc = .ok (.iaload, 1)) (kk : gj p l e R s m args below meth c D vwCl A nL Q f nc ns (pc + 1) lw (.int (xs i.toNatClampNeg) :: st)) : gj p l e R s m args below meth c D vwCl A nL Q f nc ns pc lw (.int i :: .ref b :: st) := fun H locs cells slots ls h1 h2 h3 h4 hl => va_sld C.1.1 C.1.2.1 hX hbl hbA h2 hin d (kk H locs cells slots ls h1 h2 h3 h4 hl)
theorem gj_slen (C : gx p m c cc nL s args gW own D vwCl tys A) {b L : Nat} {xs : Nat → Int32} (hX : va_X b L xs s s.heap) (hbl : b < s.heap.size) (hbA : ¬ A b) (d : decode cc pc = .ok (.arraylength, 1)) (kk : gj p l e R s m args below meth c D vwCl A nL Q f nc ns (pc + 1) lw (.int (nI L) :: st)) : gj p l e R s m args below meth c D vwCl A nL Q f nc ns pc lw (.ref b :: st) := fun H locs cells slots ls h1 h2 h3 h4 hl => va_slen C.1.1 C.1.2.1 hX hbl hbA h2 d (kk H locs cells slots ls h1 h2 h3 h4 hl)
variable {y : MethodName} {cw : Cond} {rm : Room} {bytes : ByteArray} {maxL n index : Nat} {ret : Option FieldType} {As st0 : List Value} {b ci nc0 ns0 : Nat} {fs : List Value} {r : vw_C}
/-- invokevirtual of a method of the receiver's own class, over the part g of the map -/
theorem gj_cVF (C : gx p m c cc nL s args gW own D vwCl tys A) (hE : gk_E D tys s) (hM : gk l y cw rm D tys (.ref b :: As) g post) (hg : ∀ a x, g a = some x → f a = some x) (d : decode cc pc = .ok (.invokevirtual index, 3)) (hst : st0 = As.reverse ++ .ref b :: rest) (hcw : cw ∈ gW) (hw : cw = Cond.code y bytes maxL ret) (hlk : Cond.methodLink own index y ∈ gW) (hini : Cond.initialized y.cls ∈ gW) (hin : Cond.instanceMethod y ∈ gW) (hsel : Cond.selects r.1 y y ∈ gW)
    (hd : y.cls ≠ "java/lang/invoke/MethodHandle" ∧ y.cls ≠ "java/lang/invoke/VarHandle" ∧ (parseMethodDescriptor y.desc).map (fun d => d.parameters.length) = some n) (hn : As.length = n) (hb : f b = some (.inr (ci, fs))) (hc : vwCl[ci]? = some r) (hR : rm.frames + 1 ≤ R.frames ∧ 8 + (maxL + 11) + rm.locals ≤ R.locals) (hW : (rest.map fun v => v.category).sum ≤ 8)
    (h1 : nc + rm.cells ≤ nc0) (h2 : ns + rm.slots ≤ ns0) (kk : ∀ (v : Option Value) (u : gm), post v u → (∀ q, u q ≠ none → g q ≠ none ∨ f q = none) → gj p l e R s m args below meth c D vwCl A nL Q (gm_fr f g u) nc ns (pc + 3) lw (v.toList ++ rest)) :
    gj p l e R s m args below meth c D vwCl A nL Q f nc0 ns0 pc lw st0 := by
  subst hst
  exact gj_nc h1 h2 <| gj_callF C hg (fun H locs cells slots ls h1 h2 h3 h4 hl => va_runV (As := As) (rest := rest) C.1 (hM H.size) ⟨callB_of n C.1.2.2.2.2 (gW_good hcw) (by rw [hw]) rfl rfl (C.1.2.2.2.2 _ hini) (C.1.2.2.2.2 _ hlk) hd hR, C.1.2.2.2.2 _ hin, C.1.2.2.2.2 _ hsel⟩ ⟨gk_blind, gk_recv C h1 hb hc, gk_pre hE h1 hg⟩ rfl hn hl.1 rfl (lv_room hW) d ⟨by omega, by omega⟩) kk
end LR
