/-! RangeReaders: entryAt, release, lowestFree, makeRoom. By gen/m14.py. -/
set_option maxRecDepth 100000 in
set_option maxHeartbeats 4000000 in
theorem k_entryAt (l : Launch) (D : va_G) (cI cN cZ cJ : ClassId) (f : gm) (x : Nat) (q : Option Nat) (hE hM : Nat) (held mc : Int32) (n : Nat) (g : Nat → Option Nat) (num : Int32) (hx : f x = some (cRR q hE held hM mc)) (h1 : f hE = some (aE cN n g)) (hn : n ≤ 1024) : gk l yX2_entryAt (.code yX2_entryAt cX2_entryAt 2 (Option.some (Jvm.ClassFile.FieldType.object "RangeReaders$Entry"))) (rmk 0 0 0) D (tyl cI cN cZ cJ) [.ref x, .int num] f (fun v u => ((∃ i, i < n ∧ num = nI i ∧ v = some (va_rf (g i))) ∨ ((∀ i, i < n → num ≠ nI i) ∧ v = some .null)) ∧ u = f) := by
  refine gk_of [some (.ref x), some (.int num)] (by decide) rfl (Nat.le_of_ble_eq_true rfl) rfl ?_
  intro p e s m args below meth c A C hV hr hlk hnm
  rcases pk_ix num (n := n) (by omega) with hh | hh | ⟨j, hj, rfl⟩
  · refine gj_iload_n C dX2_entryAt_0 rfl ?_
    refine gj_if_ltT (tgt := 22) C dX2_entryAt_1 (by decide) hh ?_
    refine gj_null C dX2_entryAt_22 ?_
    exact gj_aret C hr hlk dX2_entryAt_23 (Or.inl rfl) (⟨Or.inr ⟨(fun i hi h => by rw [h] at hh; exact nI_pos (by omega) hh), rfl⟩, rfl⟩)
  · refine gj_iload_n C dX2_entryAt_0 rfl ?_
    refine gj_if_lt (tgt := 22) C dX2_entryAt_1 (by decide) (fun c1 => ?_) (fun c1 => ?_)
    · refine gj_null C dX2_entryAt_22 ?_
      exact gj_aret C hr hlk dX2_entryAt_23 (Or.inl rfl) (⟨Or.inr ⟨(fun i hi h => by rw [h] at hh; exact nI_ge hi (by omega) hh), rfl⟩, rfl⟩)
    · refine gj_iload_n C dX2_entryAt_4 rfl ?_
      refine gj_aload_n C dX2_entryAt_5 rfl ?_
      refine gj_get C dX2_entryAt_6 hx rfl inX2 1 (by decide) w_22 rfl ?_
      refine gj_alen C 1 dX2_entryAt_9 h1 rfl ?_
      refine gj_icmp_geT (tgt := 22) C dX2_entryAt_10 (by decide) hh ?_
      refine gj_null C dX2_entryAt_22 ?_
      exact gj_aret C hr hlk dX2_entryAt_23 (Or.inl rfl) (⟨Or.inr ⟨(fun i hi h => by rw [h] at hh; exact nI_ge hi (by omega) hh), rfl⟩, rfl⟩)
  · refine gj_iload_n C dX2_entryAt_0 rfl ?_
    refine gj_if_ltF (tgt := 22) C dX2_entryAt_1 (by decide) (nI_pos (by omega)) ?_
    refine gj_iload_n C dX2_entryAt_4 rfl ?_
    refine gj_aload_n C dX2_entryAt_5 rfl ?_
    refine gj_get C dX2_entryAt_6 hx rfl inX2 1 (by decide) w_22 rfl ?_
    refine gj_alen C 1 dX2_entryAt_9 h1 rfl ?_
    refine gj_icmp_geF (tgt := 22) C dX2_entryAt_10 (by decide) (nI_ge hj (by omega)) ?_
    refine gj_aload_n C dX2_entryAt_13 rfl ?_
    refine gj_get C dX2_entryAt_14 hx rfl inX2 1 (by decide) w_22 rfl ?_
    refine gj_iload_n C dX2_entryAt_17 rfl ?_
    refine gj_aaldN C 1 dX2_entryAt_18 h1 rfl hj (by omega) ?_
    refine gj_goto (tgt := 23) C dX2_entryAt_19 (by decide) ?_
    exact gj_aret C hr hlk dX2_entryAt_23 (rf_or _) (⟨Or.inl ⟨j, hj, rfl, rfl⟩, rfl⟩)
set_option maxRecDepth 100000 in
set_option maxHeartbeats 4000000 in
theorem k_release (l : Launch) (D : va_G) (cI cN cZ cJ : ClassId) (f : gm) (x : Nat) (q : Option Nat) (hE hM : Nat) (held mc : Int32) (n : Nat) (g : Nat → Option Nat) (j z : Nat) (hx : f x = some (cRR q hE held hM mc)) (h1 : f hE = some (aE cN n g)) (hn : n ≤ 1024) (hj : j < n) (hz : g j = some z) : gk l yX2_release (.code yX2_release cX2_release 2 (Option.none : Option Jvm.ClassFile.FieldType)) (rmk 0 0 0) D (tyl cI cN cZ cJ) [.ref x, .int (nI j)] f (fun v u => v = none ∧ u = gm_up (gm_up f hE (aE cN n (va_up g j none))) x (cRR q hE (held - 1) hM mc)) := by
  refine gk_of [some (.ref x), some (.int (nI j))] (by decide) rfl (Nat.le_of_ble_eq_true rfl) rfl ?_
  intro p e s m args below meth c A C hV hr hlk hnm
  refine gj_iload_n C dX2_release_0 rfl ?_
  refine gj_if_ltF (tgt := 39) C dX2_release_1 (by decide) (nI_pos (by omega)) ?_
  refine gj_iload_n C dX2_release_4 rfl ?_
  refine gj_aload_n C dX2_release_5 rfl ?_
  refine gj_get C dX2_release_6 hx rfl inX2 1 (by decide) w_22 rfl ?_
  refine gj_alen C 1 dX2_release_9 h1 rfl ?_
  refine gj_icmp_geF (tgt := 39) C dX2_release_10 (by decide) (nI_ge hj (by omega)) ?_
  refine gj_aload_n C dX2_release_13 rfl ?_
  refine gj_get C dX2_release_14 hx rfl inX2 1 (by decide) w_22 rfl ?_
  refine gj_iload_n C dX2_release_17 rfl ?_
  refine gj_aaldN C 1 dX2_release_18 h1 rfl hj (by omega) ?_
  refine gj_st (st' := [.ref z]) (by rw [hz]; rfl) ?_
  refine gj_ifnull C dX2_release_19 ?_
  refine gj_aload_n C dX2_release_22 rfl ?_
  refine gj_get C dX2_release_23 hx rfl inX2 1 (by decide) w_22 rfl ?_
  refine gj_iload_n C dX2_release_26 rfl ?_
  refine gj_null C dX2_release_27 ?_
  refine gj_aastNJ C 1 dX2_release_28 h1 rfl hj (by omega) ?_
  refine gj_aload_n C dX2_release_29 rfl ?_
  refine gj_dup C dX2_release_30 rfl ?_
  refine gj_get C dX2_release_31 ((gm_up_ne (gm_ne hx h1 (by simp))).trans hx) rfl inX2 2 (by decide) w_23 rfl ?_
  refine gj_iconst (v := 1) C dX2_release_34 (by decide) ?_
  refine gj_isub C dX2_release_35 ?_
  refine gj_put C dX2_release_36 ((gm_up_ne (gm_ne hx h1 (by simp))).trans hx) rfl inX2 tyX2_ok nmX2 2 (by decide) w_23 rfl rfl rfl (Nat.le_of_ble_eq_true rfl) ?_
  exact gj_vret C hr hlk dX2_release_39 (⟨rfl, rfl⟩)
set_option maxRecDepth 100000 in
set_option maxHeartbeats 4000000 in
theorem k_lowestFree (l : Launch) (D : va_G) (cI cN cZ cJ : ClassId) (f : gm) (x : Nat) (q : Option Nat) (hE hM : Nat) (held mc : Int32) (n : Nat) (g : Nat → Option Nat) (k : Nat) (hx : f x = some (cRR q hE held hM mc)) (h1 : f hE = some (aE cN n g)) (hn : n ≤ 1024) (hkn : k < n) (hk : g k = none) (hlt : ∀ j, j < k → ∃ z, g j = some z) : gk l yX2_lowestFree (.code yX2_lowestFree cX2_lowestFree 2 (Option.some Jvm.ClassFile.FieldType.int)) (rmk 0 0 0) D (tyl cI cN cZ cJ) [.ref x] f (fun v u => v = some (.int (nI k)) ∧ u = f) := by
  refine gk_of [some (.ref x), none] (by decide) rfl (Nat.le_of_ble_eq_true rfl) rfl ?_
  intro p e s m args below meth c A C hV hr hlk hnm
  have loop : ∀ (d i : Nat), i + d = k → gj p l e (rmk 0 0 0) s m args below meth c D vwCl A 2 (MQ below (gk_Q (fun v u => v = some (.int (nI k)) ∧ u = f) D A) args s (rmk 0 0 0).cells (rmk 0 0 0).slots A) f 0 0 2 [some (.ref x), some (.int (nI i))] [] := by
    intro d
    induction d with
    | zero =>
      intro i hik
      have hik : i = k := by omega
      have hj : i < n := by omega
      refine gj_iload_n C dX2_lowestFree_2 rfl ?_
      refine gj_aload_n C dX2_lowestFree_3 rfl ?_
      refine gj_get C dX2_lowestFree_4 hx rfl inX2 1 (by decide) w_22 rfl ?_
      refine gj_alen C 1 dX2_lowestFree_7 h1 rfl ?_
      refine gj_icmp_geF (tgt := 26) C dX2_lowestFree_8 (by decide) (nI_ge hj (by omega)) ?_
      refine gj_aload_n C dX2_lowestFree_11 rfl ?_
      refine gj_get C dX2_lowestFree_12 hx rfl inX2 1 (by decide) w_22 rfl ?_
      refine gj_iload_n C dX2_lowestFree_15 rfl ?_
      refine gj_aaldN C 1 dX2_lowestFree_16 h1 rfl hj (by omega) ?_
      refine gj_st (st' := [.null]) (by rw [hik, hk]; rfl) ?_
      refine gj_ifnullN (tgt := 26) C dX2_lowestFree_17 (by decide) ?_
      refine gj_iload_n C dX2_lowestFree_26 rfl ?_
      exact gj_iret C hr hlk dX2_lowestFree_27 (⟨by rw [hik], rfl⟩)
    | succ d ih =>
      intro i hik
      have hj : i < n := by omega
      refine gj_iload_n C dX2_lowestFree_2 rfl ?_
      refine gj_aload_n C dX2_lowestFree_3 rfl ?_
      refine gj_get C dX2_lowestFree_4 hx rfl inX2 1 (by decide) w_22 rfl ?_
      refine gj_alen C 1 dX2_lowestFree_7 h1 rfl ?_
      refine gj_icmp_geF (tgt := 26) C dX2_lowestFree_8 (by decide) (nI_ge hj (by omega)) ?_
      refine gj_aload_n C dX2_lowestFree_11 rfl ?_
      refine gj_get C dX2_lowestFree_12 hx rfl inX2 1 (by decide) w_22 rfl ?_
      refine gj_iload_n C dX2_lowestFree_15 rfl ?_
      refine gj_aaldN C 1 dX2_lowestFree_16 h1 rfl hj (by omega) ?_
      obtain ⟨z, hz⟩ := hlt i (by omega)
      refine gj_st (st' := [.ref z]) (by rw [hz]; rfl) ?_
      refine gj_ifnull C dX2_lowestFree_17 ?_
      refine gj_iinc (v := (nI (i + 1))) (lw' := [some (.ref x), some (.int (nI (i + 1)))]) C dX2_lowestFree_20 rfl (nI_1 i) (by decide) rfl rfl ?_
      refine gj_goto (tgt := 2) C dX2_lowestFree_23 (by decide) ?_
      exact ih (i + 1) (by omega)
  refine gj_iconst (v := 0) C dX2_lowestFree_0 (by decide) ?_
  refine gj_istore_n (lw' := [some (.ref x), some (.int 0)]) C dX2_lowestFree_1 (by decide) rfl rfl ?_
  refine gj_st (st' := []) rfl ?_
  exact loop k 0 (by omega)
