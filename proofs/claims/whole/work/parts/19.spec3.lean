/-! The answers and the entries behind each call. -/
abbrev vr (r : Rc) : Prop := vc r.1 r.2.1 r.2.2.1 ∧ vc r.1 r.2.2.2.1 r.2.2.2.2 ∧ r.2.1 ≤ r.2.2.2.1 ∧ r.2.2.1 ≤ r.2.2.2.2
/-- is the entry of a number there -/
def thr (en : Nat → Option En) (num : Int32) : Bool := decide (0 ≤ num) && (en num.toNatClampNeg).isSome
def rmE (en : Nat → Option En) (num : Int32) : Nat → Option En := if thr en num then va_up en num.toNatClampNeg none else en
def phD (w : Int32) (e : En) : Option En := if e.2 = w then none else some e
def chD (w : Int32) (e : En) : Bool := decide (e.2 = w)
def mtA (ml : List Nat) (k : Int32) : Int32 := if k < 0 then -1 else if ml.length ≤ k.toNatClampNeg then -1 else nI (ml.getD k.toNatClampNeg 0)
def enV (e : En) (wh : Int32) : Int32 := if wh = 0 then e.1.1 else if wh = 1 then e.1.2.1 else if wh = 2 then e.1.2.2.1 else if wh = 3 then e.1.2.2.2.1 else if wh = 4 then e.1.2.2.2.2 else if wh = 5 then e.2 else -1
def enA (en : Nat → Option En) (num wh : Int32) : Int32 := if num < 0 then -1 else match en num.toNatClampNeg with
  | none => -1
  | some e => enV e wh
/-- insert: the lines of an entry -/
def insA (at0 n x : Int32) : Int32 := if x < at0 then x else x + n
def insB (cs : Bool) (at0 n x : Int32) : Int32 := if x < at0 then x else if ll cs < x + n then ll cs else x + n
def phI (sh : Int32) (cs : Bool) (at0 n : Int32) (e : En) : Option En := if rY sh cs e.1 then plE cs (insA at0 n (rF cs e.1)) (insB cs at0 n (rL cs e.1)) e else some e
def chI (sh : Int32) (cs : Bool) (at0 n : Int32) (e : En) : Bool := decide (rY sh cs e.1) && decide (¬ (insA at0 n (rF cs e.1) = rF cs e.1 ∧ insB cs at0 n (rL cs e.1) = rL cs e.1))
def delA (at0 n x : Int32) : Int32 := if x < at0 then x else if x - n < at0 then at0 else x - n
def delB (at0 n x : Int32) : Int32 := if x < at0 then x else if x - n < at0 - 1 then at0 - 1 else x - n
def phX (sh : Int32) (cs : Bool) (at0 n : Int32) (e : En) : Option En := if rY sh cs e.1 then plE cs (delA at0 n (rF cs e.1)) (delB at0 n (rL cs e.1)) e else some e
def chX (sh : Int32) (cs : Bool) (at0 n : Int32) (e : En) : Bool := decide (rY sh cs e.1) && decide (¬ (delA at0 n (rF cs e.1) = rF cs e.1 ∧ delB at0 n (rL cs e.1) = rL cs e.1))
/-- move: from r1 to r2 -/
abbrev sameM (r1 r2 : Rc) : Prop := r2.1 = r1.1 ∧ r2.2.1 - r1.2.1 = 0 ∧ r2.2.2.1 - r1.2.2.1 = 0
def phM (r1 r2 : Rc) (e : En) : Option En := if rIn e.1 r1 then some (rM r2.1 (r2.2.1 - r1.2.1) (r2.2.2.1 - r1.2.2.1) e.1, e.2) else if rIn e.1 r2 then none else some e
def chM (r1 r2 : Rc) (e : En) : Bool := decide (¬ sameM r1 r2) && (decide (rIn e.1 r1) || decide (rIn e.1 r2))
theorem i_add0 (a : Int32) : a + 0 = a := by simp
theorem phM_same {r1 r2 : Rc} (h : sameM r1 r2) (hr : r2 = r1) (e : En) : phM r1 r2 e = some e := by
  obtain ⟨h1, h2, h3⟩ := h
  unfold phM
  by_cases hi : rIn e.1 r1
  · rw [if_pos hi, h2, h3, h1, ← hi.1]
    obtain ⟨⟨a, b, c, d, f⟩, w⟩ := e
    simp [rM]
  · rw [if_neg hi, hr, if_neg hi]
theorem mapE_id {φ : En → Option En} {en : Nat → Option En} (h : ∀ e, φ e = some e) : mapE φ en = en := by
  funext j
  unfold mapE
  cases hj : en j with
  | none => rfl
  | some e => simp [h]
theorem cbE_0 {χ : En → Bool} {en : Nat → Option En} (h : ∀ e, χ e = false) : ∀ n, cbE χ en n = 0
  | 0 => rfl
  | n + 1 => by
    show cbE χ en n + cb1 χ (en n) = 0
    rw [cbE_0 h n]
    unfold cb1
    split <;> simp [h]
theorem mapI_ne {φ : En → Option En} {en : Nat → Option En} {i j : Nat} (h : mapI φ en i j ≠ none) : en j ≠ none := by
  intro hn
  apply h
  unfold mapI
  split <;> simp [hn]
section RP3
variable {cI cN : ClassId} {f : gm} {x : Nat} {nx : Option Rc} {en : Nat → Option En} {n : Nat} {ml : List Nat}
theorem Rp.bd (h : Rp cI cN f x nx en n ml) : (∀ i, n ≤ i → en i = none) ∧ n ≤ 1024 ∧ 1 ≤ n := by
  obtain ⟨q, hE, hM, k, g, mf, ar, h⟩ := h
  exact ⟨h.2.2.2.1.1, h.2.2.2.1.2.1, h.2.2.2.1.2.2.2⟩
theorem Rp_new {b1 b2 : Nat} (h1 : f x = some (cRR none b1 0 b2 0)) (h2 : f b1 = some (aE cN 16 (fun _ => none))) (h3 : f b2 = some (aI cI 16 (fun _ => 0))) : Rp cI cN f x none (fun _ => none) 16 [] := by
  refine ⟨none, b1, b2, 16, fun _ => none, fun _ => 0, fun _ => 0, ⟨?_, h2, h3⟩, ⟨rfl, fun i _ => rfl⟩, ⟨fun i j _ _ h => absurd rfl h, fun i _ h => absurd rfl h⟩, ⟨fun _ _ => rfl, by omega, by omega, by omega⟩, Nat.zero_le _, fun j hj => absurd hj (Nat.not_lt_zero _)⟩
  rw [h1]
  have e0 : cn (fun _ => none) 16 = 0 := by decide
  rw [e0]
  rfl
end RP3
theorem thr_nI {en : Nat → Option En} {i : Nat} (h : i < 2 ^ 31) : thr en (nI i) = (en i).isSome := by
  unfold thr
  rw [nI_clamp h, decide_eq_true (nI_pos' h), Bool.true_and]
theorem thr_no {en : Nat → Option En} {n : Nat} {num : Int32} (hn : n < 2 ^ 31) (h : ∀ i, i < n → num ≠ nI i) (hd : ∀ i, n ≤ i → en i = none) : thr en num = false := by
  unfold thr
  by_cases h0 : num < 0
  · have : ¬ (0 ≤ num) := by rw [i_le]; rw [i_lt] at h0; omega
    rw [decide_eq_false this, Bool.false_and]
  · obtain ⟨j, hj, rfl⟩ := nI_of h0
    rw [nI_clamp hj, hd j (by
      rcases Nat.lt_or_ge j n with h1 | h1
      · exact absurd rfl (h j h1)
      · exact h1)]
    simp
theorem rmE_f {en : Nat → Option En} {num : Int32} (h : thr en num = false) : rmE en num = en := by unfold rmE; rw [h]; rfl
theorem rmE_nI {en : Nat → Option En} {i : Nat} {e : En} (hi : i < 2 ^ 31) (h : en i = some e) : rmE en (nI i) = va_up en i none := by
  unfold rmE
  rw [thr_nI hi, h, nI_clamp hi]; rfl
theorem mtA_neg {ml : List Nat} {k : Int32} (h : k < 0) : mtA ml k = -1 := if_pos h
theorem mtA_ge {ml : List Nat} {k : Int32} (hl : ml.length < 2 ^ 31) (h : nI ml.length ≤ k) : mtA ml k = -1 := by
  unfold mtA
  by_cases h0 : k < 0
  · rw [if_pos h0]
  · obtain ⟨j, hj, rfl⟩ := nI_of h0
    rw [if_neg h0, nI_clamp hj, if_pos ((nI_leI hl hj).mp h)]
theorem mtA_nI {ml : List Nat} {j : Nat} (hl : ml.length < 2 ^ 31) (h : j < ml.length) : mtA ml (nI j) = nI (ml.getD j 0) := by
  unfold mtA
  rw [if_neg (nI_pos (by omega)), nI_clamp (by omega), if_neg (by omega)]
theorem sw6 (wh : Int32) : wh = 0 ∨ wh = 1 ∨ wh = 2 ∨ wh = 3 ∨ wh = 4 ∨ wh = 5 ∨ (wh.toInt < 0 ∨ 5 < wh.toInt) := by
  have t2 : (2 : Int32).toInt = 2 := by decide +kernel
  have t3 : (3 : Int32).toInt = 3 := by decide +kernel
  have t4 : (4 : Int32).toInt = 4 := by decide +kernel
  rw [i_eq, i_eq, i_eq, i_eq, i_eq, i_eq, t_0, t_1, t2, t3, t4, t_5]
  omega
theorem enV_out {e : En} {wh : Int32} (h : wh.toInt < 0 ∨ 5 < wh.toInt) : enV e wh = -1 := by
  have t2 : (2 : Int32).toInt = 2 := by decide +kernel
  have t3 : (3 : Int32).toInt = 3 := by decide +kernel
  have t4 : (4 : Int32).toInt = 4 := by decide +kernel
  unfold enV
  rw [if_neg (by rw [i_eq, t_0]; omega), if_neg (by rw [i_eq, t_1]; omega), if_neg (by rw [i_eq, t2]; omega), if_neg (by rw [i_eq, t3]; omega), if_neg (by rw [i_eq, t4]; omega), if_neg (by rw [i_eq, t_5]; omega)]
theorem enA_nI {en : Nat → Option En} {i : Nat} {e : En} {wh : Int32} (hi : i < 2 ^ 31) (h : en i = some e) : enA en (nI i) wh = enV e wh := by
  unfold enA
  rw [if_neg (nI_pos hi), nI_clamp hi, h]
theorem enA_no {en : Nat → Option En} {num wh : Int32} (h : thr en num = false) : enA en num wh = -1 := by
  unfold enA
  by_cases h0 : num < 0
  · rw [if_pos h0]
  · rw [if_neg h0]
    have h1 : (0 : Int32) ≤ num := by rw [i_le]; rw [i_lt] at h0; omega
    unfold thr at h
    rw [decide_eq_true h1, Bool.true_and] at h
    cases hn : en num.toNatClampNeg with
    | none => rfl
    | some e => rw [hn] at h; simp at h
theorem phD_t {w : Int32} {e : En} (h : e.2 = w) : phD w e = none := if_pos h
theorem phD_f {w : Int32} {e : En} (h : ¬ e.2 = w) : phD w e = some e := if_neg h
theorem chM_1 {r1 r2 : Rc} {e : En} (hs : ¬ sameM r1 r2) (h : rIn e.1 r1) : chM r1 r2 e = true := by unfold chM; rw [decide_eq_true hs, decide_eq_true h]; rfl
theorem chM_2 {r1 r2 : Rc} {e : En} (hs : ¬ sameM r1 r2) (h : rIn e.1 r2) : chM r1 r2 e = true := by unfold chM; rw [decide_eq_true hs, decide_eq_true h, Bool.or_true]; rfl
theorem chM_3 {r1 r2 : Rc} {e : En} (h1 : ¬ rIn e.1 r1) (h2 : ¬ rIn e.1 r2) : chM r1 r2 e = false := by unfold chM; rw [decide_eq_false h1, decide_eq_false h2, Bool.or_false, Bool.and_false]
theorem chM_0 {r1 r2 : Rc} (hs : sameM r1 r2) (e : En) : chM r1 r2 e = false := by unfold chM; rw [show decide (¬ sameM r1 r2) = false from decide_eq_false (fun h => h hs), Bool.false_and]
theorem phM_1 {r1 r2 : Rc} {e : En} (h : rIn e.1 r1) : phM r1 r2 e = some (rM r2.1 (r2.2.1 - r1.2.1) (r2.2.2.1 - r1.2.2.1) e.1, e.2) := if_pos h
theorem phM_2 {r1 r2 : Rc} {e : En} (h1 : ¬ rIn e.1 r1) (h : rIn e.1 r2) : phM r1 r2 e = none := by unfold phM; rw [if_neg h1, if_pos h]
theorem phM_3 {r1 r2 : Rc} {e : En} (h1 : ¬ rIn e.1 r1) (h : ¬ rIn e.1 r2) : phM r1 r2 e = some e := by unfold phM; rw [if_neg h1, if_neg h]
