theorem gm_swap {f : gm} {z b : Nat} {r0 x y : va_E} : gm_up (gm_up (gm_up f z r0) b x) z y = gm_up (gm_up f b x) z y := by
  funext q
  unfold gm_up
  by_cases h : q = z <;> by_cases h2 : q = b <;> simp [h, h2]
theorem rpw_ext {cI cN : ClassId} {f : gm} {x : Nat} {nx : Option Rc} {en : Nat → Option En} {n : Nat} {ml : List Nat} {q : Option Nat} {hE hM k : Nat} {g : Nat → Option Nat} {mf : Nat → Int32} {ar : Nat → Nat} (h : rpw cI cN f x nx en n ml q hE hM k g mf ar) {b : Nat} (hb : f b = none) (y : va_E) : rpw cI cN (gm_up f b y) x nx en n ml q hE hM k g mf ar := by
  obtain ⟨a1, a2, a3⟩ := h.1
  refine rpw_upd h (gm_up_of a1 hb) (gm_up_of a2 hb) (gm_up_of a3 hb) (fun c y hc _ => ?_) h.2.2.2.1.2.2.1 h.2.2.2.2.1 h.2.2.2.2.2
  rw [gm_up_ne (fun e => by rw [e, hb] at hc; cases hc)]
theorem vr_le {r : Rc} (h : vr r) (cs : Bool) : rF cs r ≤ rL cs r := by
  cases cs
  · exact h.2.2.1
  · exact h.2.2.2
theorem nI_bI (a : Nat) (b : Bool) : nI a + bI b = nI (a + if b then 1 else 0) := by
  cases b
  · simp [bI]
  · simp [bI, nI_1]
theorem cb_step {χ : En → Bool} {en : Nat → Option En} {i : Nat} {e : En} (h : en i = some e) : nI (cbE χ en (i + 1)) = nI (cbE χ en i) + bI (χ e) := by
  rw [nI_bI]
  congr 1
  show cbE χ en i + cb1 χ (en i) = _
  rw [h]
  rfl
theorem chI_y {sh : Int32} {cs : Bool} {at0 n : Int32} {e : En} (h : rY sh cs e.1) : chI sh cs at0 n e = decide (¬ (insA at0 n (rF cs e.1) = rF cs e.1 ∧ insB cs at0 n (rL cs e.1) = rL cs e.1)) := by unfold chI; rw [decide_eq_true h, Bool.true_and]
theorem chI_n {sh : Int32} {cs : Bool} {at0 n : Int32} {e : En} (h : ¬ rY sh cs e.1) : chI sh cs at0 n e = false := by unfold chI; rw [decide_eq_false h, Bool.false_and]
theorem phI_y {sh : Int32} {cs : Bool} {at0 n : Int32} {e : En} (h : rY sh cs e.1) : phI sh cs at0 n e = plE cs (insA at0 n (rF cs e.1)) (insB cs at0 n (rL cs e.1)) e := if_pos h
theorem phI_n {sh : Int32} {cs : Bool} {at0 n : Int32} {e : En} (h : ¬ rY sh cs e.1) : phI sh cs at0 n e = some e := if_neg h
theorem chX_y {sh : Int32} {cs : Bool} {at0 n : Int32} {e : En} (h : rY sh cs e.1) : chX sh cs at0 n e = decide (¬ (delA at0 n (rF cs e.1) = rF cs e.1 ∧ delB at0 n (rL cs e.1) = rL cs e.1)) := by unfold chX; rw [decide_eq_true h, Bool.true_and]
theorem chX_n {sh : Int32} {cs : Bool} {at0 n : Int32} {e : En} (h : ¬ rY sh cs e.1) : chX sh cs at0 n e = false := by unfold chX; rw [decide_eq_false h, Bool.false_and]
theorem phX_y {sh : Int32} {cs : Bool} {at0 n : Int32} {e : En} (h : rY sh cs e.1) : phX sh cs at0 n e = plE cs (delA at0 n (rF cs e.1)) (delB at0 n (rL cs e.1)) e := if_pos h
theorem phX_n {sh : Int32} {cs : Bool} {at0 n : Int32} {e : En} (h : ¬ rY sh cs e.1) : phX sh cs at0 n e = some e := if_neg h
theorem insA_t {at0 n x : Int32} (h : at0 ≤ x) : insA at0 n x = x + n := if_neg (i_len h)
theorem insA_f {at0 n x : Int32} (h : ¬ at0 ≤ x) : insA at0 n x = x := if_pos (i_nle h)
theorem insB_t {cs : Bool} {at0 n x : Int32} (h : at0 ≤ x) : insB cs at0 n x = if ll cs < x + n then ll cs else x + n := if_neg (i_len h)
theorem insB_f {cs : Bool} {at0 n x : Int32} (h : ¬ at0 ≤ x) : insB cs at0 n x = x := if_pos (i_nle h)
theorem delA_t {at0 n x : Int32} (h : at0 ≤ x) : delA at0 n x = if x - n < at0 then at0 else x - n := if_neg (i_len h)
theorem delA_f {at0 n x : Int32} (h : ¬ at0 ≤ x) : delA at0 n x = x := if_pos (i_nle h)
theorem delB_t {at0 n x : Int32} (h : at0 ≤ x) : delB at0 n x = if x - n < at0 - 1 then at0 - 1 else x - n := if_neg (i_len h)
theorem delB_f {at0 n x : Int32} (h : ¬ at0 ≤ x) : delB at0 n x = x := if_pos (i_nle h)
theorem i_asc (a d : Int32) : a + d - a = d := by
  rw [Int32.add_comm]
  exact Int32.add_sub_cancel d a
theorem sameM_eq {r1 : Rc} {sh dr dc : Int32} (h : sameM r1 (rM sh dr dc r1)) : rM sh dr dc r1 = r1 := by
  obtain ⟨h1, h2, h3⟩ := h
  obtain ⟨a, b, c, d, e⟩ := r1
  simp only [rM] at h1 h2 h3 ⊢
  rw [i_asc] at h2 h3
  subst h1; subst h2; subst h3
  simp
/-- the lowest free number -/
def lowE (en : Nat → Option En) (i : Nat) : Prop := en i = none ∧ ∀ j, j < i → en j ≠ none
theorem low_ex {en : Nat → Option En} : ∀ (n : Nat), cn en n < n → ∃ i, i < n ∧ lowE en i := by
  intro n h
  have h1 : ∃ k, en k = none ∧ k < n := by
    refine Classical.byContradiction (fun hh => ?_)
    have := cn_full n (fun j hj hn => hh ⟨j, hn, hj⟩)
    omega
  obtain ⟨k, hk1, hk2⟩ := pk_least (fun k => en k = none ∧ k < n) h1
  exact ⟨k, hk1.2, hk1.1, fun j hj hn => hk2 j hj ⟨hn, by omega⟩⟩
