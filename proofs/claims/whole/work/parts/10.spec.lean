/-! What the two classes have in common: rectangles and what a call asks of them. -/
abbrev Rc : Type := Int32 × Int32 × Int32 × Int32 × Int32
abbrev En : Type := Rc × Int32
def bI (b : Bool) : Int32 := if b then 1 else 0
theorem bI_t {p : Prop} [Decidable p] (h : p) : bI (decide p) = 1 := by simp [bI, h]
theorem bI_f {p : Prop} [Decidable p] (h : ¬ p) : bI (decide p) = 0 := by simp [bI, h]
theorem bI_n (b : Bool) : narrow .boolean (.int (bI b)) = .int (bI b) := by cases b <;> decide +kernel
theorem bI_0 {b : Bool} : bI b = 0 ↔ b = false := by cases b <;> simp [bI]
theorem bI_p0 {p : Prop} [Decidable p] (h : bI (decide p) = 0) : ¬ p := by simpa [bI_0] using h
theorem bI_p1 {p : Prop} [Decidable p] (h : ¬ bI (decide p) = 0) : p := by simpa [bI_0] using h
theorem nz_0 : narrow .boolean (.int 0) = .int 0 := by decide +kernel
theorem nz_1 : narrow .boolean (.int 1) = .int 1 := by decide +kernel
theorem i_le {x y : Int32} : x ≤ y ↔ x.toInt ≤ y.toInt := Int32.le_iff_toInt_le
theorem i_lt {x y : Int32} : x < y ↔ x.toInt < y.toInt := Int32.lt_iff_toInt_lt
theorem i_eq {x y : Int32} : x = y ↔ x.toInt = y.toInt := Int32.toInt_inj.symm
theorem t_0 : (0 : Int32).toInt = 0 := by decide +kernel
theorem t_1 : (1 : Int32).toInt = 1 := by decide +kernel
theorem t_5 : (5 : Int32).toInt = 5 := by decide +kernel
theorem t_7 : (7 : Int32).toInt = 7 := by decide +kernel
theorem t_8 : (8 : Int32).toInt = 8 := by decide +kernel
theorem t_16383 : (16383 : Int32).toInt = 16383 := by decide +kernel
theorem t_16384 : (16384 : Int32).toInt = 16384 := by decide +kernel
theorem t_32768 : (32768 : Int32).toInt = 32768 := by decide +kernel
theorem t_1048576 : (1048576 : Int32).toInt = 1048576 := by decide +kernel
abbrev ll (cs : Bool) : Int32 := if cs then 16384 else 1048576
abbrev vs (sh : Int32) : Prop := 0 ≤ sh ∧ sh < 8
abbrev vl (cs : Bool) (x : Int32) : Prop := 1 ≤ x ∧ x ≤ ll cs
abbrev vc (sh r c : Int32) : Prop := vs sh ∧ vl false r ∧ vl true c
abbrev vn (sh : Int32) (cs : Bool) (at0 n : Int32) : Prop := vs sh ∧ vl cs at0 ∧ 1 ≤ n ∧ n ≤ 16384
abbrev rF (cs : Bool) (r : Rc) : Int32 := if cs then r.2.2.1 else r.2.1
abbrev rL (cs : Bool) (r : Rc) : Int32 := if cs then r.2.2.2.2 else r.2.2.2.1
abbrev rS (cs : Bool) (a b : Int32) (r : Rc) : Rc := if cs then (r.1, r.2.1, a, r.2.2.2.1, b) else (r.1, a, r.2.2.1, b, r.2.2.2.2)
abbrev rM (sh dr dc : Int32) (r : Rc) : Rc := (sh, r.2.1 + dr, r.2.2.1 + dc, r.2.2.2.1 + dr, r.2.2.2.2 + dc)
abbrev rMeet (a b : Rc) : Prop := a.1 = b.1 ∧ a.2.1 ≤ b.2.2.2.1 ∧ b.2.1 ≤ a.2.2.2.1 ∧ a.2.2.1 ≤ b.2.2.2.2 ∧ b.2.2.1 ≤ a.2.2.2.2
abbrev rIn (a b : Rc) : Prop := a.1 = b.1 ∧ b.2.1 ≤ a.2.1 ∧ a.2.2.2.1 ≤ b.2.2.2.1 ∧ b.2.2.1 ≤ a.2.2.1 ∧ a.2.2.2.2 ≤ b.2.2.2.2
abbrev rY (sh : Int32) (cs : Bool) (r : Rc) : Prop := r.1 = sh ∧ ¬ (rF cs r = 1 ∧ rL cs r = ll cs)
/-- the cells of an Area and of an Entry -/
abbrev cAr (r : Rc) : va_E := .inr (0, [.int r.1, .int r.2.1, .int r.2.2.1, .int r.2.2.2.1, .int r.2.2.2.2])
abbrev cEn (a : Nat) (w : Int32) : va_E := .inr (1, [.ref a, .int w])
theorem gm_up_up {f : gm} {a : Nat} {x y : va_E} : gm_up (gm_up f a x) a y = gm_up f a y := by
  funext q
  unfold gm_up
  by_cases h : q = a <;> simp [h]
theorem dfX0 : ∀ j, j < 5 → defaultValue (tyX0 j) = vp_V [.int 0, .int 0, .int 0, .int 0, .int 0] j := fun j hj => by rcases (show j = 0 ∨ j = 1 ∨ j = 2 ∨ j = 3 ∨ j = 4 by omega) with rfl | rfl | rfl | rfl | rfl <;> rfl
theorem dfX1 : ∀ j, j < 2 → defaultValue (tyX1 j) = vp_V [.null, .int 0] j := fun j hj => by rcases (show j = 0 ∨ j = 1 by omega) with rfl | rfl <;> rfl
theorem dfX2 : ∀ j, j < 5 → defaultValue (tyX2 j) = vp_V [.null, .null, .int 0, .null, .int 0] j := fun j hj => by rcases (show j = 0 ∨ j = 1 ∨ j = 2 ∨ j = 3 ∨ j = 4 by omega) with rfl | rfl | rfl | rfl | rfl <;> rfl
theorem dfX3 : ∀ j, j < 17 → defaultValue (tyX3 j) = vp_V [.int 0, .null, .null, .null, .null, .null, .null, .null, .int 0, .int 0, .int 0, .int 0, .int 0, .int 0, .int 0, .int 0, .null] j := fun j hj => by rcases (show j = 0 ∨ j = 1 ∨ j = 2 ∨ j = 3 ∨ j = 4 ∨ j = 5 ∨ j = 6 ∨ j = 7 ∨ j = 8 ∨ j = 9 ∨ j = 10 ∨ j = 11 ∨ j = 12 ∨ j = 13 ∨ j = 14 ∨ j = 15 ∨ j = 16 by omega) with rfl | rfl | rfl | rfl | rfl | rfl | rfl | rfl | rfl | rfl | rfl | rfl | rfl | rfl | rfl | rfl | rfl <;> rfl
