/-! What a call does to all entries: which are met, which change or go. -/
def mtb (en : Nat → Option En) (r0 : Rc) (j : Nat) : Bool := match en j with
  | some e => decide (rMeet e.1 r0)
  | none => false
def mls (en : Nat → Option En) (r0 : Rc) (n : Nat) : List Nat := (List.range n).filter (mtb en r0)
theorem mls_t {en : Nat → Option En} {r0 : Rc} {n : Nat} (h : mtb en r0 n = true) : mls en r0 (n + 1) = mls en r0 n ++ [n] := by
  unfold mls
  rw [List.range_succ, List.filter_append]
  simp [h]
theorem mls_f {en : Nat → Option En} {r0 : Rc} {n : Nat} (h : mtb en r0 n = false) : mls en r0 (n + 1) = mls en r0 n := by
  unfold mls
  rw [List.range_succ, List.filter_append]
  simp [h]
theorem mls_len (en : Nat → Option En) (r0 : Rc) : ∀ n, (mls en r0 n).length ≤ n := by
  intro n
  have := List.length_filter_le (mtb en r0) (List.range n)
  rw [List.length_range] at this
  exact this
theorem mls_none {en : Nat → Option En} {r0 : Rc} {n : Nat} (h : ∀ j, n ≤ j → en j = none) : ∀ m, n ≤ m → mls en r0 m = mls en r0 n := by
  intro m hm
  induction m with
  | zero => rw [show n = 0 by omega]
  | succ m ih =>
    by_cases e : n = m + 1
    · rw [e]
    · rw [mls_f (by unfold mtb; rw [h m (by omega)]), ih (by omega)]
def mapE (φ : En → Option En) (en : Nat → Option En) : Nat → Option En := fun j => (en j).bind φ
def mapI (φ : En → Option En) (en : Nat → Option En) (i : Nat) : Nat → Option En := fun j => if j < i then (en j).bind φ else en j
theorem mapI_0 {φ : En → Option En} {en : Nat → Option En} : mapI φ en 0 = en := by funext j; simp [mapI]
theorem mapI_at {φ : En → Option En} {en : Nat → Option En} {i : Nat} : mapI φ en i i = en i := by simp [mapI]
theorem mapI_s {φ : En → Option En} {en : Nat → Option En} {i : Nat} {e : En} (h : en i = some e) : mapI φ en (i + 1) = va_up (mapI φ en i) i (φ e) := by
  funext j
  by_cases hj : j = i
  · subst hj; rw [va_up_self]; simp [mapI, h]
  · rw [va_up_ne _ _ hj]
    have : j < i + 1 ↔ j < i := by omega
    simp [mapI, this]
theorem mapI_n {φ : En → Option En} {en : Nat → Option En} {i : Nat} (h : en i = none) : mapI φ en (i + 1) = mapI φ en i := by
  funext j
  by_cases hj : j = i
  · subst hj; simp [mapI, h]
  · have : j < i + 1 ↔ j < i := by omega
    simp [mapI, this]
theorem mapI_k {φ : En → Option En} {en : Nat → Option En} {i : Nat} {e : En} (h : en i = some e) (hφ : φ e = some e) : mapI φ en (i + 1) = mapI φ en i := by
  rw [mapI_s h, hφ]
  funext j
  by_cases hj : j = i
  · subst hj; rw [va_up_self, mapI_at, h]
  · rw [va_up_ne _ _ hj]
theorem mapI_end {φ : En → Option En} {en : Nat → Option En} {n : Nat} (h : ∀ j, n ≤ j → en j = none) : mapI φ en n = mapE φ en := by
  funext j
  unfold mapI mapE
  by_cases hj : j < n
  · rw [if_pos hj]
  · rw [if_neg hj, h j (by omega)]; rfl
def cb1 (χ : En → Bool) (o : Option En) : Nat := match o with
  | some e => if χ e then 1 else 0
  | none => 0
def cbE (χ : En → Bool) (en : Nat → Option En) : Nat → Nat
  | 0 => 0
  | n + 1 => cbE χ en n + cb1 χ (en n)
theorem cbE_none {χ : En → Bool} {en : Nat → Option En} {n : Nat} (h : ∀ j, n ≤ j → en j = none) : ∀ m, n ≤ m → cbE χ en m = cbE χ en n := by
  intro m hm
  induction m with
  | zero => rw [show n = 0 by omega]
  | succ m ih =>
    by_cases e : n = m + 1
    · rw [e]
    · show cbE χ en m + cb1 χ (en m) = cbE χ en n
      rw [h m (by omega), ih (by omega)]
      rfl
theorem cbE_le (χ : En → Bool) (en : Nat → Option En) : ∀ n, cbE χ en n ≤ n
  | 0 => Nat.le_refl 0
  | n + 1 => by
    have := cbE_le χ en n
    show cbE χ en n + cb1 χ (en n) ≤ n + 1
    have h1 : cb1 χ (en n) ≤ 1 := by
      unfold cb1
      split
      · split <;> omega
      · omega
    omega
theorem cb_t {χ : En → Bool} {en : Nat → Option En} {i : Nat} {e : En} (h : en i = some e) (hχ : χ e = true) : cbE χ en (i + 1) = cbE χ en i + 1 := by
  show cbE χ en i + cb1 χ (en i) = _
  rw [h]; simp [cb1, hχ]
theorem cb_f {χ : En → Bool} {en : Nat → Option En} {i : Nat} {e : En} (h : en i = some e) (hχ : χ e = false) : cbE χ en (i + 1) = cbE χ en i := by
  show cbE χ en i + cb1 χ (en i) = _
  rw [h]; simp [cb1, hχ]
theorem cb_n {χ : En → Bool} {en : Nat → Option En} {i : Nat} (h : en i = none) : cbE χ en (i + 1) = cbE χ en i := by
  show cbE χ en i + cb1 χ (en i) = _
  rw [h]; simp [cb1]
/-- the lines of an entry become a .. b; it goes if they are none -/
def plE (cs : Bool) (a b : Int32) (e : En) : Option En := if b < a then none else some (rS cs a b e.1, e.2)
theorem rS_same (cs : Bool) (r : Rc) : rS cs (rF cs r) (rL cs r) r = r := by cases cs <;> rfl
theorem va_up_id {en : Nat → Option En} {i : Nat} {e : En} (h : en i = some e) : va_up en i (some e) = en := by
  funext j
  by_cases hj : j = i
  · subst hj; rw [va_up_self, h]
  · rw [va_up_ne _ _ hj]
theorem grow_s {g : Nat → Option Nat} {i z : Nat} (h : g i = some z) : va_up (fun j => if j < i then g j else none) i (some z) = fun j => if j < i + 1 then g j else none := by
  funext j
  by_cases hj : j = i
  · subst hj; rw [va_up_self]; simp [h]
  · rw [va_up_ne _ _ hj]
    have : j < i + 1 ↔ j < i := by omega
    simp [this]
theorem grow_min {n : Nat} (h : n ≤ 512) : (if (32768 : Int32) < 2 * nI n then 32768 else 2 * nI n) = nI (2 * n) := by
  have e : (2 : Int32) * nI n = nI (2 * n) := pk_mul 2 n
  rw [e, if_neg]
  rw [i_lt, t_32768, nI_toInt (by omega)]
  omega
theorem plE_n {cs : Bool} {a b : Int32} {e : En} (h : ¬ a ≤ b) : plE cs a b e = none := if_pos (by rw [i_le] at h; rw [i_lt]; omega)
theorem plE_s {cs : Bool} {a b : Int32} {e : En} (h : a ≤ b) : plE cs a b e = some (rS cs a b e.1, e.2) := if_neg (by rw [i_le] at h; rw [i_lt]; omega)
theorem plE_same {cs : Bool} {a b : Int32} {e : En} (h1 : a = rF cs e.1) (h2 : b = rL cs e.1) (h : rF cs e.1 ≤ rL cs e.1) : plE cs a b e = some e := by
  rw [plE_s (by rw [h1, h2]; exact h), h1, h2, rS_same]
theorem bI_tn {p : Prop} [Decidable p] (h : ¬ p) : bI (decide (¬ p)) = 1 := by simp [bI, h]
theorem bI_fn {p : Prop} [Decidable p] (h : p) : bI (decide (¬ p)) = 0 := by simp [bI, h]
theorem i_nlt {x y : Int32} (h : ¬ x < y) : y ≤ x := by rw [i_lt] at h; rw [i_le]; omega
theorem i_ltn {x y : Int32} (h : x < y) : ¬ y ≤ x := by rw [i_lt] at h; rw [i_le]; omega
theorem i_nle {x y : Int32} (h : ¬ x ≤ y) : y < x := by rw [i_le] at h; rw [i_lt]; omega
theorem i_len {x y : Int32} (h : x ≤ y) : ¬ y < x := by rw [i_le] at h; rw [i_lt]; omega
