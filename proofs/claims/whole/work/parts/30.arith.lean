/-! Sums and differences that don't wrap. -/
theorem i_add {x y : Int32} (h1 : -2147483648 ≤ x.toInt + y.toInt) (h2 : x.toInt + y.toInt < 2147483648) : (x + y).toInt = x.toInt + y.toInt := by
  rw [Int32.toInt_add]
  exact Int.bmod_eq_of_le (by omega) (by omega)
theorem i_sub {x y : Int32} (h1 : -2147483648 ≤ x.toInt - y.toInt) (h2 : x.toInt - y.toInt < 2147483648) : (x - y).toInt = x.toInt - y.toInt := by
  rw [Int32.toInt_sub]
  exact Int.bmod_eq_of_le (by omega) (by omega)
theorem ll_le (cs : Bool) : (ll cs).toInt ≤ 1048576 := by cases cs <;> decide +kernel
/-- a line of a sheet, and a number of lines -/
theorem ln_bd {cs : Bool} {x : Int32} (h : vl cs x) : 1 ≤ x.toInt ∧ x.toInt ≤ 1048576 := by
  obtain ⟨h1, h2⟩ := h
  have := ll_le cs
  rw [i_le, t_1] at h1
  rw [i_le] at h2
  omega
theorem nm_bd {n : Int32} (h : 1 ≤ n ∧ n ≤ 16384) : 1 ≤ n.toInt ∧ n.toInt ≤ 16384 := by
  rw [i_le, i_le, t_1, t_16384] at h
  exact h
theorem vr_F {r : Rc} (h : vr r) (cs : Bool) : vl cs (rF cs r) := by
  cases cs
  · exact h.1.2.1
  · exact h.1.2.2
theorem vr_L {r : Rc} (h : vr r) (cs : Bool) : vl cs (rL cs r) := by
  cases cs
  · exact h.2.1.2.1
  · exact h.2.1.2.2
section DEL
variable {sh : Int32} {cs : Bool} {at0 n x : Int32}
theorem del_cmp (hv : vn sh cs at0 n) (hx : vl cs x) : (at0 + n ≤ x ↔ ¬ x - n < at0) ∧ (at0 + n ≤ x ↔ ¬ x - n < at0 - 1 ∧ at0 + n ≤ x) ∧ (¬ at0 + n ≤ x → ¬ (at0 - 1 ≤ x - n ∧ at0 - 1 ≠ x - n)) := by
  have h1 := ln_bd hv.2.1
  have h2 := nm_bd hv.2.2
  have h3 := ln_bd hx
  have e1 : (at0 + n).toInt = at0.toInt + n.toInt := i_add (by omega) (by omega)
  have e2 : (x - n).toInt = x.toInt - n.toInt := i_sub (by omega) (by omega)
  have e3 : (at0 - 1).toInt = at0.toInt - 1 := by rw [i_sub (by rw [t_1]; omega) (by rw [t_1]; omega), t_1]
  refine ⟨?_, ?_, ?_⟩
  · rw [i_le, i_lt, e1, e2]; omega
  · rw [i_le, i_lt, e1, e2, e3]; omega
  · rw [i_le, i_le, e1, e2, e3]
    intro h ⟨h4, h5⟩
    have h6 : (at0 - 1).toInt ≠ (x - n).toInt := fun e => h5 (Int32.toInt_inj.mp e)
    rw [e2, e3] at h6
    omega
theorem delA_1 (hv : vn sh cs at0 n) (hx : vl cs x) (h1 : at0 ≤ x) (h2 : at0 + n ≤ x) : delA at0 n x = x - n := by
  rw [delA_t h1, if_neg ((del_cmp hv hx).1.mp h2)]
theorem delA_2 (hv : vn sh cs at0 n) (hx : vl cs x) (h1 : at0 ≤ x) (h2 : ¬ at0 + n ≤ x) : delA at0 n x = at0 := by
  rw [delA_t h1, if_pos (Classical.byContradiction (fun h => h2 ((del_cmp hv hx).1.mpr h)))]
theorem delB_1 (hv : vn sh cs at0 n) (hx : vl cs x) (h1 : at0 ≤ x) (h2 : at0 + n ≤ x) : delB at0 n x = x - n := by
  rw [delB_t h1, if_neg ((del_cmp hv hx).2.1.mp h2).1]
theorem delB_2 (hv : vn sh cs at0 n) (hx : vl cs x) (h1 : at0 ≤ x) (h2 : ¬ at0 + n ≤ x) : delB at0 n x = at0 - 1 := by
  rw [delB_t h1]
  by_cases h : x - n < at0 - 1
  · rw [if_pos h]
  · rw [if_neg h]
    have h3 := (del_cmp hv hx).2.2 h2
    have h4 : at0 - 1 ≤ x - n := i_nlt h
    exact Classical.byContradiction (fun h5 => h3 ⟨h4, fun e => h5 e.symm⟩)
end DEL
theorem insB_1 {cs : Bool} {at0 n x : Int32} (h : ¬ x < at0) (h2 : x + n ≤ ll cs) : insB cs at0 n x = x + n := by unfold insB; rw [if_neg h, if_neg (i_len h2)]
theorem insB_2 {cs : Bool} {at0 n x : Int32} (h : ¬ x < at0) (h2 : ¬ x + n ≤ ll cs) : insB cs at0 n x = ll cs := by unfold insB; rw [if_neg h, if_pos (i_nle h2)]
theorem insB_3 {cs : Bool} {at0 n x : Int32} (h : x < at0) : insB cs at0 n x = x := if_pos h
theorem insA_1 {at0 n x : Int32} (h : ¬ x < at0) : insA at0 n x = x + n := if_neg h
theorem insA_2 {at0 n x : Int32} (h : x < at0) : insA at0 n x = x := if_pos h
theorem i_aas (a b : Int32) : a + (b - a) = b := by
  rw [Int32.add_comm]
  exact Int32.sub_add_cancel b a
/-- where a rectangle is put down: it lies on the sheet -/
theorem mv_lies {r : Rc} {sh rw co : Int32} (hr : vr r) (hc : vc sh rw co) : vc sh (rM sh (rw - r.2.1) (co - r.2.2.1) r).2.2.2.1 (rM sh (rw - r.2.1) (co - r.2.2.1) r).2.2.2.2 ↔ (r.2.2.2.1 + (rw - r.2.1) ≤ 1048576 ∧ r.2.2.2.2 + (co - r.2.2.1) ≤ 16384) := by
  obtain ⟨⟨s1, t1, l1⟩, ⟨s2, b1, q1⟩, tb, lr⟩ := hr
  have a1 := ln_bd t1
  have a2 := ln_bd l1
  have a3 := ln_bd b1
  have a4 := ln_bd q1
  have a5 := ln_bd hc.2.1
  have a6 := ln_bd hc.2.2
  rw [i_le] at tb lr
  have e1 : (rw - r.2.1).toInt = rw.toInt - r.2.1.toInt := i_sub (by omega) (by omega)
  have e2 : (co - r.2.2.1).toInt = co.toInt - r.2.2.1.toInt := i_sub (by omega) (by omega)
  have e3 : (r.2.2.2.1 + (rw - r.2.1)).toInt = r.2.2.2.1.toInt + (rw.toInt - r.2.1.toInt) := by rw [← e1]; exact i_add (by omega) (by omega)
  have e4 : (r.2.2.2.2 + (co - r.2.2.1)).toInt = r.2.2.2.2.toInt + (co.toInt - r.2.2.1.toInt) := by rw [← e2]; exact i_add (by omega) (by omega)
  constructor
  · intro h
    exact ⟨h.2.1.2, h.2.2.2⟩
  · intro h
    refine ⟨hc.1, ⟨?_, h.1⟩, ⟨?_, h.2⟩⟩
    · show (1 : Int32) ≤ r.2.2.2.1 + (rw - r.2.1)
      rw [i_le, t_1, e3]; omega
    · show (1 : Int32) ≤ r.2.2.2.2 + (co - r.2.2.1)
      rw [i_le, t_1, e4]; omega
theorem sameM_mv {r : Rc} {sh dr dc : Int32} : sameM r (rM sh dr dc r) ↔ (sh = r.1 ∧ dr = 0 ∧ dc = 0) := by
  unfold sameM rM
  simp only [i_asc]
theorem phM_mv {r : Rc} {sh dr dc : Int32} {e : En} (h : rIn e.1 r) : phM r (rM sh dr dc r) e = some (rM sh dr dc e.1, e.2) := by
  rw [phM_1 h]
  simp only [rM, i_asc]
theorem chM_2' {r1 r2 : Rc} {e : En} (h1 : ¬ rIn e.1 r1) (h2 : rIn e.1 r2) (hS : sameM r1 r2 → r2 = r1) : chM r1 r2 e = true := chM_2 (fun hs => h1 (hS hs ▸ h2)) h2
theorem mv_eq {r : Rc} {sh rw co : Int32} : (sh, rw, co, r.2.2.2.1 + (rw - r.2.1), r.2.2.2.2 + (co - r.2.2.1)) = rM sh (rw - r.2.1) (co - r.2.2.1) r := by
  simp only [rM, i_aas]
