/-! RangeReaders: makeRoom, findMeeting, putLines. By gen/m17.py. -/
set_option maxRecDepth 100000 in
set_option maxHeartbeats 4000000 in
theorem k_makeRoomA (l : Launch) (D : va_G) (cI cN cZ cJ : ClassId) (f : gm) (x : Nat) (q : Option Nat) (hE hM : Nat) (held mc : Int32) (n : Nat) (g : Nat → Option Nat) (hx : f x = some (cRR q hE held hM mc)) (h1 : f hE = some (aE cN n g)) (hn : n ≤ 1024) (hlt : ¬ nI n ≤ held) : gk l yX2_makeRoom (.code yX2_makeRoom cX2_makeRoom 3 (Option.none : Option Jvm.ClassFile.FieldType)) (rmk 0 0 0) D (tyl cI cN cZ cJ) [.ref x] f (fun v u => v = none ∧ u = f) := by
  refine gk_of [some (.ref x), none, none] (by decide) rfl (Nat.le_of_ble_eq_true rfl) rfl ?_
  intro p e s m args below meth c A C hV hr hlk hnm
  refine gj_aload_n C dX2_makeRoom_0 rfl ?_
  refine gj_get C dX2_makeRoom_1 hx rfl inX2 2 (by decide) w_23 rfl ?_
  refine gj_aload_n C dX2_makeRoom_4 rfl ?_
  refine gj_get C dX2_makeRoom_5 hx rfl inX2 1 (by decide) w_22 rfl ?_
  refine gj_alen C 1 dX2_makeRoom_8 h1 rfl ?_
  refine gj_icmp_geF (tgt := 13) C dX2_makeRoom_9 (by decide) hlt ?_
  exact gj_vret C hr hlk dX2_makeRoom_12 (⟨rfl, rfl⟩)
set_option maxRecDepth 100000 in
set_option maxHeartbeats 4000000 in
theorem k_makeRoomB (l : Launch) (D : va_G) (cI cN cZ cJ : ClassId) (f : gm) (x : Nat) (q : Option Nat) (hE hM : Nat) (mc : Int32) (n : Nat) (g : Nat → Option Nat) (hx : f x = some (cRR q hE (nI n) hM mc)) (h1 : f hE = some (aE cN n g)) (hn : n ≤ 512) (hall : ∀ j, j < n → ∃ z c w, g j = some z ∧ f z = some (cEn c w)) : gk l yX2_makeRoom (.code yX2_makeRoom cX2_makeRoom 3 (Option.none : Option Jvm.ClassFile.FieldType)) (rmk 0 1 (2 * n)) D (tyl cI cN cZ cJ) [.ref x] f (fun v u => ∃ b, v = none ∧ f b = none ∧ u = gm_up (gm_up f b (aE cN (2 * n) (fun j => if j < n then g j else none))) x (cRR q b (nI n) hM mc)) := by
  refine gk_of [some (.ref x), none, none] (by decide) rfl (Nat.le_of_ble_eq_true rfl) rfl ?_
  intro p e s m args below meth c A C hV hr hlk hnm
  have loop : ∀ (b : Nat), f b = none → ∀ (d i : Nat), i + d = n → gj p l e (rmk 0 1 (2 * n)) s m args below meth c D vwCl A 3 (MQ below (gk_Q (fun v u => ∃ b, v = none ∧ f b = none ∧ u = gm_up (gm_up f b (aE cN (2 * n) (fun j => if j < n then g j else none))) x (cRR q b (nI n) hM mc)) D A) args s (rmk 0 1 (2 * n)).cells (rmk 0 1 (2 * n)).slots A) (gm_up f b (aE cN (2 * n) (fun j => if j < i then g j else none))) 0 0 30 [some (.ref x), some (.ref b), some (.int (nI i))] [] := by
    intro b hb d
    induction d with
    | zero =>
      intro i hik
      have hik : i = n := by omega
      subst hik
      have hik : i = i := rfl
      refine gj_iload_n C dX2_makeRoom_30 rfl ?_
      refine gj_aload_n C dX2_makeRoom_31 rfl ?_
      refine gj_get C dX2_makeRoom_32 (gm_up_of hx hb) rfl inX2 1 (by decide) w_22 rfl ?_
      refine gj_alen C 1 dX2_makeRoom_35 (gm_up_of h1 hb) rfl ?_
      refine gj_icmp_geT (tgt := 60) C dX2_makeRoom_36 (by decide) (Int32.le_refl _) ?_
      refine gj_aload_n C dX2_makeRoom_60 rfl ?_
      refine gj_aload_n C dX2_makeRoom_61 rfl ?_
      refine gj_put C dX2_makeRoom_62 (gm_up_of hx hb) rfl inX2 tyX2_ok nmX2 1 (by decide) w_22 rfl rfl rfl (Nat.le_of_ble_eq_true rfl) ?_
      exact gj_vret C hr hlk dX2_makeRoom_65 (⟨b, rfl, hb, rfl⟩)
    | succ d ih =>
      intro i hik
      have hj : i < n := by omega
      refine gj_iload_n C dX2_makeRoom_30 rfl ?_
      refine gj_aload_n C dX2_makeRoom_31 rfl ?_
      refine gj_get C dX2_makeRoom_32 (gm_up_of hx hb) rfl inX2 1 (by decide) w_22 rfl ?_
      refine gj_alen C 1 dX2_makeRoom_35 (gm_up_of h1 hb) rfl ?_
      refine gj_icmp_geF (tgt := 60) C dX2_makeRoom_36 (by decide) (nI_ge hj (by omega)) ?_
      refine gj_iload_n C dX2_makeRoom_39 rfl ?_
      refine gj_aload_n C dX2_makeRoom_40 rfl ?_
      refine gj_alen C 1 dX2_makeRoom_41 gm_up_self rfl ?_
      refine gj_icmp_geF (tgt := 60) C dX2_makeRoom_42 (by decide) (nI_ge (by omega) (by omega)) ?_
      refine gj_aload_n C dX2_makeRoom_45 rfl ?_
      refine gj_iload_n C dX2_makeRoom_46 rfl ?_
      refine gj_aload_n C dX2_makeRoom_47 rfl ?_
      refine gj_get C dX2_makeRoom_48 (gm_up_of hx hb) rfl inX2 1 (by decide) w_22 rfl ?_
      refine gj_iload_n C dX2_makeRoom_51 rfl ?_
      obtain ⟨z, c0, w0, hz, hz2⟩ := hall i hj
      refine gj_aaldN C 1 dX2_makeRoom_52 (gm_up_of h1 hb) rfl hj (by omega) ?_
      refine gj_st (st' := [.ref z, .int (nI i), .ref b]) (by rw [hz]; rfl) ?_
      refine gj_aastJ C 1 dX2_makeRoom_53 gm_up_self rfl (gm_up_of hz2 hb) rfl (by omega) (by omega) ?_
      refine gj_f (f' := (gm_up f b (aE cN (2 * n) (fun j => if j < i + 1 then g j else none)))) (by rw [gm_up_up, grow_s hz]) ?_
      refine gj_iinc (v := (nI (i + 1))) (lw' := [some (.ref x), some (.ref b), some (.int (nI (i + 1)))]) C dX2_makeRoom_54 rfl (nI_1 i) (by decide) rfl rfl ?_
      refine gj_goto (tgt := 30) C dX2_makeRoom_57 (by decide) ?_
      exact ih (i + 1) (by omega)
  refine gj_aload_n C dX2_makeRoom_0 rfl ?_
  refine gj_get C dX2_makeRoom_1 hx rfl inX2 2 (by decide) w_23 rfl ?_
  refine gj_aload_n C dX2_makeRoom_4 rfl ?_
  refine gj_get C dX2_makeRoom_5 hx rfl inX2 1 (by decide) w_22 rfl ?_
  refine gj_alen C 1 dX2_makeRoom_8 h1 rfl ?_
  refine gj_icmp_geT (tgt := 13) C dX2_makeRoom_9 (by decide) (Int32.le_refl _) ?_
  refine gj_iconst (v := 2) C dX2_makeRoom_13 (by decide) ?_
  refine gj_aload_n C dX2_makeRoom_14 rfl ?_
  refine gj_get C dX2_makeRoom_15 hx rfl inX2 2 (by decide) w_23 rfl ?_
  refine gj_imul C dX2_makeRoom_18 ?_
  refine gj_ldc (v := 32768) C dX2_makeRoom_19 w_187 ?_
  refine gj_mmin C dX2_makeRoom_21 w_208 w_209 w_9 w_210 (Nat.le_of_ble_eq_true rfl) (Nat.le_of_ble_eq_true rfl) ?_
  refine gj_st (st' := [.int (nI (2 * n))]) (by rw [grow_min hn]) ?_
  refine gj_newq (N := 2 * n) (nc := 0) (ns := 0) C 1 dX2_makeRoom_24 rfl w_19 (hV.2.2.1 _ (List.mem_of_getElem? (i := 0) rfl)) (nI_pos (by omega)) (nI_clamp (by omega)) (by omega) (by show 0 + 1 ≤ 1; decide) (by show 0 + 2 * n ≤ 2 * n; omega) (fun b hb => ?_)
  refine gj_f (f' := (gm_up f b (aE cN (2 * n) (fun j => if j < 0 then g j else none)))) (by simp only [Nat.not_lt_zero, if_false]) ?_
  refine gj_astore_n (lw' := [some (.ref x), some (.ref b), none]) C dX2_makeRoom_27 (by decide) rfl rfl ?_
  refine gj_iconst (v := 0) C dX2_makeRoom_28 (by decide) ?_
  refine gj_istore_n (lw' := [some (.ref x), some (.ref b), some (.int 0)]) C dX2_makeRoom_29 (by decide) rfl rfl ?_
  exact loop b hb n 0 (by omega)
