/-! What every call keeps: the entries and the next rectangle lie on their sheets, and no entry has a number of the calls' count or above. -/
def wf (t : Nat) (nx : Option Rc) (en : Nat → Option En) : Prop := (∀ r, nx = some r → vr r) ∧ (∀ j e, en j = some e → vr e.1) ∧ ∀ j, t ≤ j → en j = none
section WF
variable {t : Nat} {nx : Option Rc} {en : Nat → Option En}
theorem wf_new : wf 0 none (fun _ => none) := ⟨fun _ h => absurd h (by simp), fun _ _ h => absurd h (by simp), fun _ _ => rfl⟩
theorem wf.mono {t' : Nat} (h : wf t nx en) (ht : t ≤ t') : wf t' nx en := ⟨h.1, h.2.1, fun j hj => h.2.2 j (Nat.le_trans ht hj)⟩
theorem wf_rect (h : wf t nx en) (r : Rc) : wf t (if vr r then some r else nx) en := by
  refine ⟨fun q hq => ?_, h.2⟩
  by_cases hr : vr r
  · rw [if_pos hr] at hq; cases hq; exact hr
  · rw [if_neg hr] at hq; exact h.1 q hq
theorem wf_map {φ : En → Option En} (h : wf t nx en) (hφ : ∀ e e', vr e.1 → φ e = some e' → vr e'.1) : wf t nx (mapE φ en) := by
  refine ⟨h.1, fun j e' he => ?_, fun j hj => ?_⟩
  · unfold mapE at he
    cases hj : en j with
    | none => rw [hj] at he; cases he
    | some e => rw [hj] at he; exact hφ e e' (h.2.1 j e hj) he
  · unfold mapE
    rw [h.2.2 j hj]
    rfl
theorem wf_rm (h : wf t nx en) (num : Int32) : wf t nx (rmE en num) := by
  unfold rmE
  split
  · refine ⟨h.1, fun j e he => ?_, fun j hj => ?_⟩
    · by_cases hji : j = num.toNatClampNeg
      · rw [hji, va_up_self] at he; cases he
      · rw [va_up_ne _ _ hji] at he; exact h.2.1 j e he
    · by_cases hji : j = num.toNatClampNeg
      · rw [hji, va_up_self]
      · rw [va_up_ne _ _ hji]; exact h.2.2 j hj
  · exact h
theorem low_un {i j : Nat} (h1 : lowE en i) (h2 : lowE en j) : i = j := by
  rcases Nat.lt_trichotomy i j with h | h | h
  · exact absurd h1.1 (h2.2 i h)
  · exact h
  · exact absurd h2.1 (h1.2 j h)
theorem low_le {i : Nat} (h : wf t nx en) (hl : lowE en i) : i ≤ t := by
  rcases Nat.lt_or_ge t i with h1 | h1
  · exact absurd (h.2.2 t (Nat.le_refl t)) (hl.2 t h1)
  · exact h1
theorem wf_low (h : wf t nx en) (ht : t < 4096) : ∃ i, i < 4096 ∧ lowE en i := by
  obtain ⟨k, hk1, hk2⟩ := pk_least (fun k => en k = none) ⟨t, h.2.2 t (Nat.le_refl t)⟩
  have hl : lowE en k := ⟨hk1, fun j hj hn => hk2 j hj hn⟩
  exact ⟨k, Nat.lt_of_le_of_lt (low_le h hl) ht, hl⟩
theorem wf_add {i : Nat} {r : Rc} {w : Int32} (h : wf t nx en) (hn : nx = some r) (hl : lowE en i) : wf (t + 1) nx (va_up en i (some (r, w))) := by
  refine ⟨h.1, fun j e he => ?_, fun j hj => ?_⟩
  · by_cases hji : j = i
    · rw [hji, va_up_self] at he; cases he; exact h.1 r hn
    · rw [va_up_ne _ _ hji] at he; exact h.2.1 j e he
  · have := low_le h hl
    rw [va_up_ne _ _ (by omega)]
    exact h.2.2 j (by omega)
theorem wf_D (h : wf t nx en) (w : Int32) : wf t nx (mapE (phD w) en) := wf_map h (fun e e' hv he => by
  unfold phD at he
  split at he
  · cases he
  · cases he; exact hv)
theorem vr_rS {cs : Bool} {a b : Int32} {r : Rc} (h : vr r) (h1 : 1 ≤ a) (h2 : a ≤ b) (h3 : b ≤ ll cs) : vr (rS cs a b r) := by
  have h4 : a ≤ ll cs := by rw [i_le] at *; omega
  have h5 : 1 ≤ b := by rw [i_le] at *; omega
  cases cs
  · exact ⟨⟨h.1.1, ⟨h1, h4⟩, h.1.2.2⟩, ⟨h.1.1, ⟨h5, h3⟩, h.2.1.2.2⟩, h2, h.2.2.2⟩
  · exact ⟨⟨h.1.1, h.1.2.1, ⟨h1, h4⟩⟩, ⟨h.1.1, h.2.1.2.1, ⟨h5, h3⟩⟩, h.2.2.1, h2⟩
theorem vr_plE {cs : Bool} {a b : Int32} {e e' : En} (h : vr e.1) (h1 : 1 ≤ a) (h3 : b ≤ ll cs) (he : plE cs a b e = some e') : vr e'.1 := by
  unfold plE at he
  split at he
  · cases he
  · rename_i hn
    cases he
    exact vr_rS h h1 (i_nlt hn) h3
theorem wf_I (h : wf t nx en) {sh : Int32} {cs : Bool} {at0 n : Int32} (hv : vn sh cs at0 n) : wf t nx (mapE (phI sh cs at0 n) en) := wf_map h (fun e e' hr he => by
  unfold phI at he
  split at he
  · have n1 := nm_bd hv.2.2
    have f0 := vr_F hr cs
    have f1 := ln_bd f0
    refine vr_plE hr ?_ ?_ he
    · unfold insA
      split
      · exact f0.1
      · rw [i_le, i_add (by omega) (by omega), t_1]; omega
    · unfold insB
      split
      · exact (vr_L hr cs).2
      · split
        · rw [i_le]; omega
        · rename_i hh
          exact i_nlt hh
  · cases he; exact hr)
theorem wf_X (h : wf t nx en) {sh : Int32} {cs : Bool} {at0 n : Int32} (hv : vn sh cs at0 n) : wf t nx (mapE (phX sh cs at0 n) en) := wf_map h (fun e e' hr he => by
  unfold phX at he
  split at he
  · have n1 := nm_bd hv.2.2
    have a0 := hv.2.1
    have a1 := ln_bd a0
    have f0 := vr_F hr cs
    have f1 := ln_bd f0
    have l0 := vr_L hr cs
    have l1 := ln_bd l0
    refine vr_plE hr ?_ ?_ he
    · unfold delA
      split
      · exact f0.1
      · split
        · exact a0.1
        · rename_i hh
          have h2 := i_nlt hh
          rw [i_le] at h2 ⊢
          rw [t_1]; omega
    · have l2 := l0.2
      have a2 := a0.2
      unfold delB
      split
      · exact l2
      · split
        · rw [i_le] at a2 ⊢
          rw [i_sub (by rw [t_1]; omega) (by rw [t_1]; omega), t_1]; omega
        · rw [i_le] at l2 ⊢
          rw [i_sub (by omega) (by omega)]; omega
  · cases he; exact hr)
theorem vr_mv {r q : Rc} {sh rw co : Int32} (hr : vr r) (hq : vr q) (hi : rIn q r) (hc : vc sh rw co) (hd : vc sh (rM sh (rw - r.2.1) (co - r.2.2.1) r).2.2.2.1 (rM sh (rw - r.2.1) (co - r.2.2.1) r).2.2.2.2) : vr (rM sh (rw - r.2.1) (co - r.2.2.1) q) := by
  obtain ⟨⟨s1, t1, l1⟩, ⟨s2, b1, q1⟩, tb, lr⟩ := hr
  obtain ⟨⟨u1, v1, w1⟩, ⟨u2, x1, y1⟩, tb2, lr2⟩ := hq
  obtain ⟨z0, z1, z2, z3, z4⟩ := hi
  have a1 := ln_bd t1
  have a2 := ln_bd l1
  have a3 := ln_bd b1
  have a4 := ln_bd q1
  have a5 := ln_bd hc.2.1
  have a6 := ln_bd hc.2.2
  have c1 := ln_bd v1
  have c2 := ln_bd w1
  have c3 := ln_bd x1
  have c4 := ln_bd y1
  have d1 : r.2.2.2.1 + (rw - r.2.1) ≤ ll false := hd.2.1.2
  have d2 : r.2.2.2.2 + (co - r.2.2.1) ≤ ll true := hd.2.2.2
  rw [i_le] at tb lr tb2 lr2 z1 z2 z3 z4 d1 d2
  have e1 : (rw - r.2.1).toInt = rw.toInt - r.2.1.toInt := i_sub (by omega) (by omega)
  have e2 : (co - r.2.2.1).toInt = co.toInt - r.2.2.1.toInt := i_sub (by omega) (by omega)
  have e3 : (r.2.2.2.1 + (rw - r.2.1)).toInt = r.2.2.2.1.toInt + (rw.toInt - r.2.1.toInt) := by rw [← e1]; exact i_add (by omega) (by omega)
  have e4 : (r.2.2.2.2 + (co - r.2.2.1)).toInt = r.2.2.2.2.toInt + (co.toInt - r.2.2.1.toInt) := by rw [← e2]; exact i_add (by omega) (by omega)
  have g1 : (q.2.1 + (rw - r.2.1)).toInt = q.2.1.toInt + (rw.toInt - r.2.1.toInt) := by rw [← e1]; exact i_add (by omega) (by omega)
  have g2 : (q.2.2.1 + (co - r.2.2.1)).toInt = q.2.2.1.toInt + (co.toInt - r.2.2.1.toInt) := by rw [← e2]; exact i_add (by omega) (by omega)
  have g3 : (q.2.2.2.1 + (rw - r.2.1)).toInt = q.2.2.2.1.toInt + (rw.toInt - r.2.1.toInt) := by rw [← e1]; exact i_add (by omega) (by omega)
  have g4 : (q.2.2.2.2 + (co - r.2.2.1)).toInt = q.2.2.2.2.toInt + (co.toInt - r.2.2.1.toInt) := by rw [← e2]; exact i_add (by omega) (by omega)
  rw [e3] at d1
  rw [e4] at d2
  refine ⟨⟨hc.1, ⟨?_, ?_⟩, ⟨?_, ?_⟩⟩, ⟨hc.1, ⟨?_, ?_⟩, ⟨?_, ?_⟩⟩, ?_, ?_⟩
  · show (1 : Int32) ≤ q.2.1 + (rw - r.2.1)
    rw [i_le, g1, t_1]; omega
  · show q.2.1 + (rw - r.2.1) ≤ ll false
    rw [i_le, g1]; omega
  · show (1 : Int32) ≤ q.2.2.1 + (co - r.2.2.1)
    rw [i_le, g2, t_1]; omega
  · show q.2.2.1 + (co - r.2.2.1) ≤ ll true
    rw [i_le, g2]; omega
  · show (1 : Int32) ≤ q.2.2.2.1 + (rw - r.2.1)
    rw [i_le, g3, t_1]; omega
  · show q.2.2.2.1 + (rw - r.2.1) ≤ ll false
    rw [i_le, g3]; omega
  · show (1 : Int32) ≤ q.2.2.2.2 + (co - r.2.2.1)
    rw [i_le, g4, t_1]; omega
  · show q.2.2.2.2 + (co - r.2.2.1) ≤ ll true
    rw [i_le, g4]; omega
  · show q.2.1 + (rw - r.2.1) ≤ q.2.2.2.1 + (rw - r.2.1)
    rw [i_le, g1, g3]; omega
  · show q.2.2.1 + (co - r.2.2.1) ≤ q.2.2.2.2 + (co - r.2.2.1)
    rw [i_le, g2, g4]; omega
theorem wf_M (h : wf t nx en) {r : Rc} (hn : nx = some r) {sh rw co : Int32} (hc : vc sh rw co) (hd : vc sh (rM sh (rw - r.2.1) (co - r.2.2.1) r).2.2.2.1 (rM sh (rw - r.2.1) (co - r.2.2.1) r).2.2.2.2) : wf t nx (mapE (phM r (rM sh (rw - r.2.1) (co - r.2.2.1) r)) en) := wf_map h (fun e e' hr he => by
  by_cases hi : rIn e.1 r
  · rw [phM_mv hi] at he
    cases he
    exact vr_mv (h.1 r hn) hr hi hc hd
  · unfold phM at he
    rw [if_neg hi] at he
    split at he
    · cases he
    · cases he; exact hr)
end WF
/-! The law's world: the object of the class in gX, the reference in gM, the row for an answer at o. -/
abbrev aJ (cJ : ClassId) (g : Nat → Int64) : va_E := .inl (cJ, 1, .inr (.inl g))
def wl (cI cN cZ cJ : ClassId) (F gX gM : gm) (x y o : Nat) (g : Nat → Int64) (cd : Int32) (nx nx' : Option Rc) (en en' : Nat → Option En) (ml ml' : List Nat) : Prop :=
  ((∀ a z, gX a = some z → F a = some z) ∧ (∀ a z, gM a = some z → F a = some z) ∧ F o = some (aJ cJ g)) ∧ ((∀ q, gX q ≠ none → gM q = none) ∧ gX o = none ∧ gM o = none) ∧ (∃ n, Rp cI cN gX x nx en n ml) ∧ RpM cI cZ gM y cd nx' en' ml'
section WL
variable {cI cN cZ cJ : ClassId} {F gX gM : gm} {x y o : Nat} {g : Nat → Int64} {cd : Int32} {nx nx' : Option Rc} {en en' : Nat → Option En} {ml ml' : List Nat}
theorem gm_fr_in {f g u : gm} (hd : ∀ q, u q ≠ none → g q ≠ none ∨ f q = none) {a : Nat} {z : va_E} (h : u a = some z) : gm_fr f g u a = some z := by
  unfold gm_fr
  rw [if_neg]
  · exact h
  · rintro ⟨h1, h2⟩
    rcases hd a (by rw [h]; exact fun z => by cases z) with h3 | h3
    · exact h3 h1
    · exact h2 h3
theorem gm_fr_out {f g u : gm} {a : Nat} {z : va_E} (h : f a = some z) (hg : g a = none) : gm_fr f g u a = some z := by
  unfold gm_fr
  rw [if_pos ⟨hg, by rw [h]; exact fun z => by cases z⟩]
  exact h
theorem gm_some {g : gm} {q : Nat} (h : g q ≠ none) : ∃ z, g q = some z := by
  cases hg : g q with
  | none => exact absurd hg h
  | some z => exact ⟨z, rfl⟩
/-- the class's object has changed -/
theorem wl_X {u : gm} {n : Nat} {nx2 : Option Rc} {en2 : Nat → Option En} {ml2 : List Nat} (h : wl cI cN cZ cJ F gX gM x y o g cd nx nx' en en' ml ml') (hd : ∀ q, u q ≠ none → gX q ≠ none ∨ F q = none) (hu : Rp cI cN u x nx2 en2 n ml2) : wl cI cN cZ cJ (gm_fr F gX u) u gM x y o g cd nx2 nx' en2 en' ml2 ml' := by
  obtain ⟨⟨a1, a2, a3⟩, ⟨b1, b2, b3⟩, c1, c2⟩ := h
  have hM : ∀ q, gM q ≠ none → gX q = none := fun q hq => by
    cases hx : gX q with
    | none => rfl
    | some z => exact absurd (b1 q (by rw [hx]; exact fun z => by cases z)) hq
  refine ⟨⟨fun a z hz => gm_fr_in hd hz, fun a z hz => gm_fr_out (a2 a z hz) (hM a (by rw [hz]; exact fun z => by cases z)), gm_fr_out a3 b2⟩, ⟨fun q hq => ?_, ?_, b3⟩, ⟨n, hu⟩, c2⟩
  · rcases hd q hq with h1 | h1
    · exact b1 q h1
    · cases hm : gM q with
      | none => rfl
      | some z => rw [a2 q z hm] at h1; cases h1
  · cases ho : u o with
    | none => rfl
    | some z =>
      rcases hd o (by rw [ho]; exact fun z => by cases z) with h1 | h1
      · exact absurd b2 h1
      · rw [a3] at h1; cases h1
/-- the reference has changed -/
theorem wl_M {u : gm} {cd2 : Int32} {nx2 : Option Rc} {en2 : Nat → Option En} {ml2 : List Nat} (h : wl cI cN cZ cJ F gX gM x y o g cd nx nx' en en' ml ml') (hd : ∀ q, u q ≠ none → gM q ≠ none ∨ F q = none) (hu : RpM cI cZ u y cd2 nx2 en2 ml2) : wl cI cN cZ cJ (gm_fr F gM u) gX u x y o g cd2 nx nx2 en en2 ml ml2 := by
  obtain ⟨⟨a1, a2, a3⟩, ⟨b1, b2, b3⟩, c1, c2⟩ := h
  refine ⟨⟨fun a z hz => gm_fr_out (a1 a z hz) (b1 a (by rw [hz]; exact fun z => by cases z)), fun a z hz => gm_fr_in hd hz, gm_fr_out a3 b3⟩, ⟨fun q hq => ?_, b2, ?_⟩, c1, hu⟩
  · cases hm : u q with
    | none => rfl
    | some z =>
      rcases hd q (by rw [hm]; exact fun z => by cases z) with h1 | h1
      · exact absurd (b1 q hq) h1
      · obtain ⟨z2, hz2⟩ := gm_some hq
        rw [a1 q z2 hz2] at h1; cases h1
  · cases ho : u o with
    | none => rfl
    | some z =>
      rcases hd o (by rw [ho]; exact fun z => by cases z) with h1 | h1
      · exact absurd b3 h1
      · rw [a3] at h1; cases h1
/-- the answer is written -/
theorem wl_o {g2 : Nat → Int64} (h : wl cI cN cZ cJ F gX gM x y o g cd nx nx' en en' ml ml') : wl cI cN cZ cJ (gm_up F o (aJ cJ g2)) gX gM x y o g2 cd nx nx' en en' ml ml' := by
  obtain ⟨⟨a1, a2, a3⟩, ⟨b1, b2, b3⟩, c1, c2⟩ := h
  refine ⟨⟨fun a z hz => ?_, fun a z hz => ?_, gm_up_self⟩, ⟨b1, b2, b3⟩, c1, c2⟩
  · rw [gm_up_ne (fun e => by rw [e, b2] at hz; cases hz)]; exact a1 a z hz
  · rw [gm_up_ne (fun e => by rw [e, b3] at hz; cases hz)]; exact a2 a z hz
/-- the class's cell, the reference's cell -/
theorem wl_x (h : wl cI cN cZ cJ F gX gM x y o g cd nx nx' en en' ml ml') : ∃ fs, F x = some (.inr (2, fs)) := by
  obtain ⟨⟨a1, a2, a3⟩, ⟨b1, b2, b3⟩, ⟨n, q, hE, hM, k, gg, mf, ar, hw⟩, c2⟩ := h
  exact ⟨_, a1 x _ hw.1.1⟩
theorem wl_y (h : wl cI cN cZ cJ F gX gM x y o g cd nx nx' en en' ml ml') : ∃ fs, F y = some (.inr (3, fs)) := by
  obtain ⟨⟨a1, a2, a3⟩, b, c1, ad, ga, isR, r5, hw⟩ := h
  exact ⟨_, a2 y _ hw.1.1⟩
end WL
