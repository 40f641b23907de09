/-! An object of RangeReadersModel in a map: eight rows of 4096 (there, sheets, tops, lefts, bottoms, rights, owners, met), and its own cell. -/
abbrev cMo (cd : Int32) (ad : Nat → Nat) (ent isR : Int32) (r : Rc) (fd : Int32) : va_E := .inr (3, [.int cd, .ref (ad 0), .ref (ad 1), .ref (ad 2), .ref (ad 3), .ref (ad 4), .ref (ad 5), .ref (ad 6), .int ent, .int isR, .int r.1, .int r.2.1, .int r.2.2.1, .int r.2.2.2.1, .int r.2.2.2.2, .int fd, .ref (ad 7)])
abbrev aZ (cZ : ClassId) (g : Nat → Int32) : va_E := .inl (cZ, 4096, .inl g)
def rma (cI cZ : ClassId) (f : gm) (ad : Nat → Nat) (ga : Nat → Nat → Int32) : Prop := f (ad 0) = some (aZ cZ (ga 0)) ∧ ∀ k, 1 ≤ k → k < 8 → f (ad k) = some (aI cI 4096 (ga k))
def rme (ga : Nat → Nat → Int32) (j : Nat) (e : Option En) : Prop := match e with
  | none => ga 0 j = 0
  | some e => ga 0 j = 1 ∧ ga 1 j = e.1.1 ∧ ga 2 j = e.1.2.1 ∧ ga 3 j = e.1.2.2.1 ∧ ga 4 j = e.1.2.2.2.1 ∧ ga 5 j = e.1.2.2.2.2 ∧ ga 6 j = e.2
def rmn (nx : Option Rc) (isR : Int32) (r5 : Rc) : Prop := match nx with
  | none => isR = 0
  | some r => isR = 1 ∧ r5 = r
def rpm (cI cZ : ClassId) (f : gm) (y : Nat) (cd : Int32) (nx : Option Rc) (en : Nat → Option En) (ml : List Nat) (ad : Nat → Nat) (ga : Nat → Nat → Int32) (isR : Int32) (r5 : Rc) (ent : Int32) : Prop :=
  (f y = some (cMo cd ad ent isR r5 (nI ml.length)) ∧ rma cI cZ f ad ga) ∧ (∀ i j, i < 8 → j < 8 → ad i = ad j → i = j) ∧ rmn nx isR r5 ∧ (∀ j, j < 4096 → rme ga j (en j)) ∧ (∀ j, 4096 ≤ j → en j = none) ∧ ml.length ≤ 4096 ∧ ∀ j, j < ml.length → ga 7 j = nI (ml.getD j 0)
def RpM (cI cZ : ClassId) (f : gm) (y : Nat) (cd : Int32) (nx : Option Rc) (en : Nat → Option En) (ml : List Nat) : Prop :=
  ∃ (ad : Nat → Nat) (ga : Nat → Nat → Int32) (isR : Int32) (r5 : Rc), rpm cI cZ f y cd nx en ml ad ga isR r5 (nI (cn en 4096))
section RPM
variable {cI cZ : ClassId} {f : gm} {y : Nat} {cd : Int32} {nx : Option Rc} {en : Nat → Option En} {ml : List Nat} {ad : Nat → Nat} {ga : Nat → Nat → Int32} {isR : Int32} {r5 : Rc} {ent : Int32}
theorem rma_up (h : rma cI cZ f ad ga) (hi : ∀ i j, i < 8 → j < 8 → ad i = ad j → i = j) {k : Nat} (h1 : 1 ≤ k) (h2 : k < 8) (g : Nat → Int32) : rma cI cZ (gm_up f (ad k) (aI cI 4096 g)) ad (va_up ga k g) := by
  refine ⟨?_, fun i a1 a2 => ?_⟩
  · rw [gm_up_ne (fun e => by have := hi 0 k (by omega) h2 e; omega), va_up_ne _ _ (by omega)]; exact h.1
  · by_cases e : i = k
    · subst e; rw [gm_up_self, va_up_self]
    · rw [gm_up_ne (fun e2 => e (hi i k a2 h2 e2)), va_up_ne _ _ e]; exact h.2 i a1 a2
theorem rma_up0 (h : rma cI cZ f ad ga) (hi : ∀ i j, i < 8 → j < 8 → ad i = ad j → i = j) (g : Nat → Int32) : rma cI cZ (gm_up f (ad 0) (aZ cZ g)) ad (va_up ga 0 g) := by
  refine ⟨?_, fun i a1 a2 => ?_⟩
  · rw [gm_up_self, va_up_self]
  · rw [gm_up_ne (fun e => by have := hi i 0 a2 (by omega) e; omega), va_up_ne _ _ (by omega)]; exact h.2 i a1 a2
theorem rma_y (h : rma cI cZ f ad ga) {fs : List Value} (hy : f y = some (.inr (3, fs))) (x : va_E) : rma cI cZ (gm_up f y x) ad ga := by
  refine ⟨?_, fun i a1 a2 => ?_⟩
  · rw [gm_up_ne (gm_ne h.1 hy (by simp))]; exact h.1
  · rw [gm_up_ne (gm_ne (h.2 i a1 a2) hy (by simp))]; exact h.2 i a1 a2
/-- its own cell is written -/
theorem rpm_y (h : rpm cI cZ f y cd nx en ml ad ga isR r5 ent) (cd' : Int32) {nx' : Option Rc} {ml' : List Nat} {isR' : Int32} {r5' : Rc} (ent' : Int32) (hn : rmn nx' isR' r5') (h1 : ml'.length ≤ 4096) (h2 : ∀ j, j < ml'.length → ga 7 j = nI (ml'.getD j 0)) : rpm cI cZ (gm_up f y (cMo cd' ad ent' isR' r5' (nI ml'.length))) y cd' nx' en ml' ad ga isR' r5' ent' := by
  obtain ⟨⟨a1, a2⟩, b, c, d, e, g1, g2⟩ := h
  exact ⟨⟨gm_up_self, rma_y a2 a1 _⟩, b, hn, d, e, h1, h2⟩
theorem rpm_cd (h : rpm cI cZ f y cd nx en ml ad ga isR r5 ent) (cd' ent' : Int32) : rpm cI cZ (gm_up f y (cMo cd' ad ent' isR r5 (nI ml.length))) y cd' nx en ml ad ga isR r5 ent' := rpm_y h cd' ent' h.2.2.1 h.2.2.2.2.2.1 h.2.2.2.2.2.2
theorem rme_ne {ga' : Nat → Nat → Int32} {j : Nat} {e : Option En} (h : rme ga j e) (hk : ∀ k, k < 7 → ga' k j = ga k j) : rme ga' j e := by
  cases e with
  | none => exact (hk 0 (by omega)).trans h
  | some e =>
    obtain ⟨h0, h1, h2, h3, h4, h5, h6⟩ := h
    exact ⟨(hk 0 (by omega)).trans h0, (hk 1 (by omega)).trans h1, (hk 2 (by omega)).trans h2, (hk 3 (by omega)).trans h3, (hk 4 (by omega)).trans h4, (hk 5 (by omega)).trans h5, (hk 6 (by omega)).trans h6⟩
theorem ga_ne {k j i : Nat} {v : Int32} (h : i ≠ j) (m : Nat) : va_up ga k (upd (ga k) j v) m i = ga m i := by
  by_cases e : m = k
  · subst e; rw [va_up_self, pk_un h]
  · rw [va_up_ne _ _ e]
/-- a row of numbers is written, at an entry that is there -/
def setk (k : Nat) (v : Int32) (e : En) : En := if k = 1 then ((v, e.1.2), e.2) else if k = 2 then ((e.1.1, v, e.1.2.2), e.2) else if k = 3 then ((e.1.1, e.1.2.1, v, e.1.2.2.2), e.2) else if k = 4 then ((e.1.1, e.1.2.1, e.1.2.2.1, v, e.1.2.2.2.2), e.2) else if k = 5 then ((e.1.1, e.1.2.1, e.1.2.2.1, e.1.2.2.2.1, v), e.2) else (e.1, v)
theorem rpm_st (h : rpm cI cZ f y cd nx en ml ad ga isR r5 ent) {j : Nat} (hj : j < 4096) {e : En} (he : en j = some e) (k : Nat) (h1 : 1 ≤ k) (h2 : k < 7) (v : Int32) : rpm cI cZ (gm_up f (ad k) (aI cI 4096 (upd (ga k) j v))) y cd nx (va_up en j (some (setk k v e))) ml ad (va_up ga k (upd (ga k) j v)) isR r5 ent := by
  obtain ⟨⟨a1, a2⟩, b, c, d, e1, g1, g2⟩ := h
  refine ⟨⟨?_, rma_up a2 b h1 (by omega) _⟩, b, c, fun i hi => ?_, fun i hi => ?_, g1, fun i hi => ?_⟩
  · rw [gm_up_ne (gm_ne a1 (a2.2 k h1 (by omega)) (by simp))]; exact a1
  · by_cases hij : i = j
    · subst hij
      rw [va_up_self]
      have hd := d i hi
      rw [he] at hd
      obtain ⟨q0, q1, q2, q3, q4, q5, q6⟩ := hd
      rcases (show k = 1 ∨ k = 2 ∨ k = 3 ∨ k = 4 ∨ k = 5 ∨ k = 6 by omega) with rfl | rfl | rfl | rfl | rfl | rfl <;> exact ⟨by simp [va_up, q0], by simp [va_up, setk, upd, q1], by simp [va_up, setk, upd, q2], by simp [va_up, setk, upd, q3], by simp [va_up, setk, upd, q4], by simp [va_up, setk, upd, q5], by simp [va_up, setk, upd, q6]⟩
    · rw [va_up_ne _ _ hij]
      exact rme_ne (d i hi) (fun m _ => ga_ne hij m)
  · rw [va_up_ne _ _ (by omega)]; exact e1 i hi
  · rw [va_up_ne _ _ (by omega)]; exact g2 i hi
/-- an entry comes or goes -/
theorem rpm_t1 (h : rpm cI cZ f y cd nx en ml ad ga isR r5 ent) {j : Nat} (hj : j < 4096) : rpm cI cZ (gm_up f (ad 0) (aZ cZ (upd (ga 0) j 1))) y cd nx (va_up en j (some ((ga 1 j, ga 2 j, ga 3 j, ga 4 j, ga 5 j), ga 6 j))) ml ad (va_up ga 0 (upd (ga 0) j 1)) isR r5 ent := by
  obtain ⟨⟨a1, a2⟩, b, c, d, e1, g1, g2⟩ := h
  refine ⟨⟨?_, rma_up0 a2 b _⟩, b, c, fun i hi => ?_, fun i hi => ?_, g1, fun i hi => ?_⟩
  · rw [gm_up_ne (gm_ne a1 a2.1 (by simp))]; exact a1
  · by_cases hij : i = j
    · subst hij
      rw [va_up_self]
      exact ⟨by simp [va_up, upd], rfl, rfl, rfl, rfl, rfl, rfl⟩
    · rw [va_up_ne _ _ hij]
      exact rme_ne (d i hi) (fun m _ => ga_ne hij m)
  · rw [va_up_ne _ _ (by omega)]; exact e1 i hi
  · rw [va_up_ne _ _ (by omega)]; exact g2 i hi
theorem rpm_t0 (h : rpm cI cZ f y cd nx en ml ad ga isR r5 ent) {j : Nat} (hj : j < 4096) : rpm cI cZ (gm_up f (ad 0) (aZ cZ (upd (ga 0) j 0))) y cd nx (va_up en j none) ml ad (va_up ga 0 (upd (ga 0) j 0)) isR r5 ent := by
  obtain ⟨⟨a1, a2⟩, b, c, d, e1, g1, g2⟩ := h
  refine ⟨⟨?_, rma_up0 a2 b _⟩, b, c, fun i hi => ?_, fun i hi => ?_, g1, fun i hi => ?_⟩
  · rw [gm_up_ne (gm_ne a1 a2.1 (by simp))]; exact a1
  · by_cases hij : i = j
    · subst hij
      rw [va_up_self]
      show va_up ga 0 (upd (ga 0) i 0) 0 i = 0
      simp [va_up, upd]
    · rw [va_up_ne _ _ hij]
      exact rme_ne (d i hi) (fun m _ => ga_ne hij m)
  · rw [va_up_ne _ _ (by omega)]; exact e1 i hi
  · rw [va_up_ne _ _ (by omega)]; exact g2 i hi
/-- the row of those that were met is written, behind its end -/
theorem rpm_m (h : rpm cI cZ f y cd nx en ml ad ga isR r5 ent) {j : Nat} (hj : ml.length ≤ j) (v : Int32) : rpm cI cZ (gm_up f (ad 7) (aI cI 4096 (upd (ga 7) j v))) y cd nx en ml ad (va_up ga 7 (upd (ga 7) j v)) isR r5 ent := by
  obtain ⟨⟨a1, a2⟩, b, c, d, e1, g1, g2⟩ := h
  refine ⟨⟨?_, rma_up a2 b (by omega) (by omega) _⟩, b, c, fun i hi => rme_ne (d i hi) (fun m hm => by rw [va_up_ne _ _ (by omega)]), e1, g1, fun i hi => ?_⟩
  · rw [gm_up_ne (gm_ne a1 (a2.2 7 (by omega) (by omega)) (by simp))]; exact a1
  · rw [va_up_self, pk_un (by omega)]; exact g2 i hi
theorem rpm_at (h : rpm cI cZ f y cd nx en ml ad ga isR r5 ent) {j : Nat} (hj : j < 4096) {e : En} (he : en j = some e) : ga 0 j = 1 ∧ ga 1 j = e.1.1 ∧ ga 2 j = e.1.2.1 ∧ ga 3 j = e.1.2.2.1 ∧ ga 4 j = e.1.2.2.2.1 ∧ ga 5 j = e.1.2.2.2.2 ∧ ga 6 j = e.2 := by
  have := h.2.2.2.1 j hj
  rw [he] at this
  exact this
theorem rpm_no (h : rpm cI cZ f y cd nx en ml ad ga isR r5 ent) {j : Nat} (hj : j < 4096) (he : en j = none) : ga 0 j = 0 := by
  have := h.2.2.2.1 j hj
  rw [he] at this
  exact this
theorem vpn_0 : vp_nar .boolean 0 = 0 := by decide +kernel
theorem vpn_1 : vp_nar .boolean 1 = 1 := by decide +kernel
end RPM
def inb (en : Nat → Option En) (r0 : Rc) (j : Nat) : Bool := match en j with
  | some e => decide (rIn e.1 r0)
  | none => false
def ptb (en : Nat → Option En) (sh : Int32) (cs : Bool) (j : Nat) : Bool := match en j with
  | some e => decide (rY sh cs e.1)
  | none => false
theorem mtb_s {en : Nat → Option En} {r0 : Rc} {j : Nat} {e : En} (h : en j = some e) : mtb en r0 j = decide (rMeet e.1 r0) := by unfold mtb; rw [h]
theorem mtb_n {en : Nat → Option En} {r0 : Rc} {j : Nat} (h : en j = none) : mtb en r0 j = false := by unfold mtb; rw [h]
theorem inb_s {en : Nat → Option En} {r0 : Rc} {j : Nat} {e : En} (h : en j = some e) : inb en r0 j = decide (rIn e.1 r0) := by unfold inb; rw [h]
theorem inb_n {en : Nat → Option En} {r0 : Rc} {j : Nat} (h : en j = none) : inb en r0 j = false := by unfold inb; rw [h]
theorem ptb_s {en : Nat → Option En} {sh : Int32} {cs : Bool} {j : Nat} {e : En} (h : en j = some e) : ptb en sh cs j = decide (rY sh cs e.1) := by unfold ptb; rw [h]
theorem ptb_n {en : Nat → Option En} {sh : Int32} {cs : Bool} {j : Nat} (h : en j = none) : ptb en sh cs j = false := by unfold ptb; rw [h]
abbrev wn (v lo hi : Int32) : Prop := lo ≤ v ∧ v ≤ hi
section DUP2
variable {p : Program} {l : Launch} {e : Env} {R : Room} {s : State} {m : MethodId} {args : Array Value} {below : List Frame} {meth : Method} {c : Code} {D : va_G} {cl : List vw_C} {A : Nat → Prop} {nL : Nat} {Q : State → Prop} {f : gm} {nc ns pc : Nat} {lw : List (Option Value)} {st : List Value} {cc : ByteArray} {Ts : List Cond} {own : String} {tys : List (ClassId × FieldType)}
theorem gj_dup2 (C : gx p m c cc nL s args Ts own D cl tys A) {v w : Value} (d : decode cc pc = .ok (.dup2, 1)) (hv : v.category = 1) (hw : w.category = 1) (kk : gj p l e R s m args below meth c D cl A nL Q f nc ns (pc + 1) lw (v :: w :: v :: w :: st)) : gj p l e R s m args below meth c D cl A nL Q f nc ns pc lw (v :: w :: st) := fun H locs cells slots ls h1 h2 h3 h4 hl => lv_dup2_11 C.1.1 C.1.2.1 d hv hw (kk H locs cells slots ls h1 h2 h3 h4 hl)
end DUP2
theorem thr_ex {en : Nat → Option En} {num : Int32} (h : thr en num = true) (hd : ∀ j, 4096 ≤ j → en j = none) : ∃ j e, j < 4096 ∧ num = nI j ∧ en j = some e := by
  unfold thr at h
  rw [Bool.and_eq_true, decide_eq_true_eq] at h
  have h0 : ¬ num < 0 := i_len h.1
  obtain ⟨j, hj, rfl⟩ := nI_of h0
  rw [nI_clamp hj] at h
  cases hej : en j with
  | none => rw [hej] at h; simp at h
  | some e =>
    refine ⟨j, e, ?_, rfl, hej⟩
    rcases Nat.lt_or_ge j 4096 with h1 | h1
    · exact h1
    · rw [hd j h1] at hej; cases hej
theorem RpM.hd {cI cZ : ClassId} {f : gm} {y : Nat} {cd : Int32} {nx : Option Rc} {en : Nat → Option En} {ml : List Nat} (h : RpM cI cZ f y cd nx en ml) : ∀ j, 4096 ≤ j → en j = none := by
  obtain ⟨ad, ga, isR, r5, hW⟩ := h
  exact hW.2.2.2.2.1
theorem bI_b0 {b : Bool} (h : bI b = 0) : b = false := bI_0.mp h
theorem bI_b1 {b : Bool} (h : ¬ bI b = 0) : b = true := by cases b <;> simp_all [bI]
/-- an entry goes, and one less is counted -/
theorem rpm_go {cI cZ : ClassId} {f : gm} {y : Nat} {cd : Int32} {nx : Option Rc} {en : Nat → Option En} {ml : List Nat} {ad : Nat → Nat} {ga : Nat → Nat → Int32} {isR : Int32} {r5 : Rc} (h : rpm cI cZ f y cd nx en ml ad ga isR r5 (nI (cn en 4096))) {j : Nat} (hj : j < 4096) {e : En} (he : en j = some e) : rpm cI cZ (gm_up (gm_up f (ad 0) (aZ cZ (upd (ga 0) j 0))) y (cMo cd ad (nI (cn en 4096) - 1) isR r5 (nI ml.length))) y cd nx (va_up en j none) ml ad (va_up ga 0 (upd (ga 0) j 0)) isR r5 (nI (cn (va_up en j none) 4096)) := by
  have h1 := rpm_cd (rpm_t0 h hj) cd (nI (cn en 4096) - 1)
  have e1 : nI (cn en 4096) - 1 = nI (cn (va_up en j none) 4096) := by rw [← cn_del he 4096 hj, nI_pred]
  rw [e1] at h1 ⊢
  exact h1
theorem rpm_ms {cI cZ : ClassId} {f : gm} {y : Nat} {cd : Int32} {nx : Option Rc} {en : Nat → Option En} {ml : List Nat} {ad : Nat → Nat} {ga : Nat → Nat → Int32} {isR : Int32} {r5 : Rc} {ent : Int32} (h : rpm cI cZ f y cd nx en ml ad ga isR r5 ent) (hl : ml.length < 4096) (i : Nat) : rpm cI cZ (gm_up (gm_up f (ad 7) (aI cI 4096 (upd (ga 7) ml.length (nI i)))) y (cMo cd ad ent isR r5 (nI ml.length + 1))) y cd nx en (ml ++ [i]) ad (va_up ga 7 (upd (ga 7) ml.length (nI i))) isR r5 ent := by
  have h1 := rpm_m h (Nat.le_refl _) (nI i)
  have h2 := rpm_y (ml' := ml ++ [i]) h1 cd ent h.2.2.1 (by simp; omega) (fun j hj => by
    rw [va_up_self, getD_snoc]
    by_cases h3 : j < ml.length
    · rw [if_pos h3, pk_un (by omega)]; exact h.2.2.2.2.2.2 j h3
    · have h4 : j = ml.length := by simp at hj; omega
      rw [if_neg h3, if_pos h4, h4, pk_us])
  have e : nI (ml ++ [i]).length = nI ml.length + 1 := by simp only [List.length_append, List.length_singleton, nI_1]
  rw [e] at h2
  exact h2
theorem ad_inj {l : List Nat} (h : l.Nodup) (i j : Nat) (hi : i < l.length) (hj : j < l.length) (e : l.getD i 0 = l.getD j 0) : i = j := by
  simp only [List.getD, List.getElem?_eq_getElem hi, List.getElem?_eq_getElem hj, Option.getD_some] at e
  rcases Nat.lt_trichotomy i j with h1 | h1 | h1
  · exact absurd e ((List.pairwise_iff_getElem.mp h) i j hi hj h1)
  · exact h1
  · exact absurd e.symm ((List.pairwise_iff_getElem.mp h) j i hj hi h1)
theorem gm_nn {f : gm} {a b : Nat} {x : va_E} (ha : f a = some x) (hb : f b = none) : a ≠ b := fun e => by rw [e, hb] at ha; cases ha
theorem vr_ll {r : Rc} (h : vr r) (cs : Bool) : rL cs r ≤ ll cs := by
  cases cs
  · exact h.2.1.2.1.2
  · exact h.2.1.2.2.2
