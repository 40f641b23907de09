/-! RangeReadersModel: its constructor, drop, meetAll, readers, meet, add. By gen/m29.py. -/
set_option maxRecDepth 100000 in
set_option maxHeartbeats 4000000 in
theorem k_Minit (l : Launch) (D : va_G) (cI cN cZ cJ : ClassId) (f : gm) (y : Nat) (hy : f y = some (.inr (3, [.int 0, .null, .null, .null, .null, .null, .null, .null, .int 0, .int 0, .int 0, .int 0, .int 0, .int 0, .int 0, .int 0, .null]))) : gk l yX3_init (.code yX3_init cX3_init 1 (Option.none : Option Jvm.ClassFile.FieldType)) (rmk 0 8 32768) D (tyl cI cN cZ cJ) [.ref y] f (fun v u => v = none ∧ RpM cI cZ u y 0 none (fun _ => none) []) := by
  refine gk_of [some (.ref y)] (by decide) rfl (Nat.le_of_ble_eq_true rfl) rfl ?_
  intro p e s m args below meth c A C hV hr hlk hnm
  refine gj_aload_n C dX3_init_0 rfl ?_
  refine gj_objInit C dX3_init_1 w_328 w_17 w_18 (Nat.le_of_ble_eq_true rfl) (Nat.le_of_ble_eq_true rfl) ?_
  refine gj_aload_n C dX3_init_4 rfl ?_
  refine gj_sipush (v := 4096) C dX3_init_5 (by decide) ?_
  refine gj_newa (N := 4096) (a0 := (4096, .inl (fun _ => 0))) (nc := 7) (ns := 28672) C 2 dX3_init_8 rfl rfl w_381 (fun _ => rfl) (by decide) (by decide) (by decide) (by decide) (by decide) (fun b0 hb0 => ?_)
  refine gj_putF C dX3_init_10 (gm_up_of hy hb0) rfl inX3 tyX3_ok nmX3 1 (by decide) w_330 rfl hnm rfl rfl rfl (Nat.le_of_ble_eq_true rfl) ?_
  have ny0 : y ≠ b0 := gm_nn hy hb0
  have h0 : gm_up (gm_up f b0 (aZ cZ (fun _ => 0))) y (.inr (3, [.int 0, .ref b0, .null, .null, .null, .null, .null, .null, .int 0, .int 0, .int 0, .int 0, .int 0, .int 0, .int 0, .int 0, .null])) b0 = some (aZ cZ (fun _ => 0)) := by rw [gm_up_ne (Ne.symm ny0), gm_up_self]
  have hy : gm_up (gm_up f b0 (aZ cZ (fun _ => 0))) y (.inr (3, [.int 0, .ref b0, .null, .null, .null, .null, .null, .null, .int 0, .int 0, .int 0, .int 0, .int 0, .int 0, .int 0, .int 0, .null])) y = _ := gm_up_self
  refine gj_f (f' := gm_up (gm_up f b0 (aZ cZ (fun _ => 0))) y (.inr (3, [.int 0, .ref b0, .null, .null, .null, .null, .null, .null, .int 0, .int 0, .int 0, .int 0, .int 0, .int 0, .int 0, .int 0, .null]))) rfl ?_
  generalize gm_up (gm_up f b0 (aZ cZ (fun _ => 0))) y (.inr (3, [.int 0, .ref b0, .null, .null, .null, .null, .null, .null, .int 0, .int 0, .int 0, .int 0, .int 0, .int 0, .int 0, .int 0, .null])) = f at h0 hy ⊢
  refine gj_aload_n C dX3_init_13 rfl ?_
  refine gj_sipush (v := 4096) C dX3_init_14 (by decide) ?_
  refine gj_newa (N := 4096) (a0 := (4096, .inl (fun _ => 0))) (nc := 6) (ns := 24576) C 0 dX3_init_17 rfl rfl w_37 (fun _ => rfl) (by decide) (by decide) (by decide) (by decide) (by decide) (fun b1 hb1 => ?_)
  have n01 : b0 ≠ b1 := gm_nn h0 hb1
  refine gj_putF C dX3_init_19 (gm_up_of hy hb1) rfl inX3 tyX3_ok nmX3 2 (by decide) w_331 rfl hnm rfl rfl rfl (Nat.le_of_ble_eq_true rfl) ?_
  have ny1 : y ≠ b1 := gm_nn hy hb1
  have h0 : gm_up (gm_up f b1 (aI cI 4096 (fun _ => 0))) y (.inr (3, [.int 0, .ref b0, .ref b1, .null, .null, .null, .null, .null, .int 0, .int 0, .int 0, .int 0, .int 0, .int 0, .int 0, .int 0, .null])) b0 = some (aZ cZ (fun _ => 0)) := by rw [gm_up_ne (Ne.symm ny0), gm_up_ne n01]; exact h0
  have h1 : gm_up (gm_up f b1 (aI cI 4096 (fun _ => 0))) y (.inr (3, [.int 0, .ref b0, .ref b1, .null, .null, .null, .null, .null, .int 0, .int 0, .int 0, .int 0, .int 0, .int 0, .int 0, .int 0, .null])) b1 = some (aI cI 4096 (fun _ => 0)) := by rw [gm_up_ne (Ne.symm ny1), gm_up_self]
  have hy : gm_up (gm_up f b1 (aI cI 4096 (fun _ => 0))) y (.inr (3, [.int 0, .ref b0, .ref b1, .null, .null, .null, .null, .null, .int 0, .int 0, .int 0, .int 0, .int 0, .int 0, .int 0, .int 0, .null])) y = _ := gm_up_self
  refine gj_f (f' := gm_up (gm_up f b1 (aI cI 4096 (fun _ => 0))) y (.inr (3, [.int 0, .ref b0, .ref b1, .null, .null, .null, .null, .null, .int 0, .int 0, .int 0, .int 0, .int 0, .int 0, .int 0, .int 0, .null]))) rfl ?_
  generalize gm_up (gm_up f b1 (aI cI 4096 (fun _ => 0))) y (.inr (3, [.int 0, .ref b0, .ref b1, .null, .null, .null, .null, .null, .int 0, .int 0, .int 0, .int 0, .int 0, .int 0, .int 0, .int 0, .null])) = f at h0 h1 hy ⊢
  refine gj_aload_n C dX3_init_22 rfl ?_
  refine gj_sipush (v := 4096) C dX3_init_23 (by decide) ?_
  refine gj_newa (N := 4096) (a0 := (4096, .inl (fun _ => 0))) (nc := 5) (ns := 20480) C 0 dX3_init_26 rfl rfl w_37 (fun _ => rfl) (by decide) (by decide) (by decide) (by decide) (by decide) (fun b2 hb2 => ?_)
  have n02 : b0 ≠ b2 := gm_nn h0 hb2
  have n12 : b1 ≠ b2 := gm_nn h1 hb2
  refine gj_putF C dX3_init_28 (gm_up_of hy hb2) rfl inX3 tyX3_ok nmX3 3 (by decide) w_332 rfl hnm rfl rfl rfl (Nat.le_of_ble_eq_true rfl) ?_
  have ny2 : y ≠ b2 := gm_nn hy hb2
  have h0 : gm_up (gm_up f b2 (aI cI 4096 (fun _ => 0))) y (.inr (3, [.int 0, .ref b0, .ref b1, .ref b2, .null, .null, .null, .null, .int 0, .int 0, .int 0, .int 0, .int 0, .int 0, .int 0, .int 0, .null])) b0 = some (aZ cZ (fun _ => 0)) := by rw [gm_up_ne (Ne.symm ny0), gm_up_ne n02]; exact h0
  have h1 : gm_up (gm_up f b2 (aI cI 4096 (fun _ => 0))) y (.inr (3, [.int 0, .ref b0, .ref b1, .ref b2, .null, .null, .null, .null, .int 0, .int 0, .int 0, .int 0, .int 0, .int 0, .int 0, .int 0, .null])) b1 = some (aI cI 4096 (fun _ => 0)) := by rw [gm_up_ne (Ne.symm ny1), gm_up_ne n12]; exact h1
  have h2 : gm_up (gm_up f b2 (aI cI 4096 (fun _ => 0))) y (.inr (3, [.int 0, .ref b0, .ref b1, .ref b2, .null, .null, .null, .null, .int 0, .int 0, .int 0, .int 0, .int 0, .int 0, .int 0, .int 0, .null])) b2 = some (aI cI 4096 (fun _ => 0)) := by rw [gm_up_ne (Ne.symm ny2), gm_up_self]
  have hy : gm_up (gm_up f b2 (aI cI 4096 (fun _ => 0))) y (.inr (3, [.int 0, .ref b0, .ref b1, .ref b2, .null, .null, .null, .null, .int 0, .int 0, .int 0, .int 0, .int 0, .int 0, .int 0, .int 0, .null])) y = _ := gm_up_self
  refine gj_f (f' := gm_up (gm_up f b2 (aI cI 4096 (fun _ => 0))) y (.inr (3, [.int 0, .ref b0, .ref b1, .ref b2, .null, .null, .null, .null, .int 0, .int 0, .int 0, .int 0, .int 0, .int 0, .int 0, .int 0, .null]))) rfl ?_
  generalize gm_up (gm_up f b2 (aI cI 4096 (fun _ => 0))) y (.inr (3, [.int 0, .ref b0, .ref b1, .ref b2, .null, .null, .null, .null, .int 0, .int 0, .int 0, .int 0, .int 0, .int 0, .int 0, .int 0, .null])) = f at h0 h1 h2 hy ⊢
  refine gj_aload_n C dX3_init_31 rfl ?_
  refine gj_sipush (v := 4096) C dX3_init_32 (by decide) ?_
  refine gj_newa (N := 4096) (a0 := (4096, .inl (fun _ => 0))) (nc := 4) (ns := 16384) C 0 dX3_init_35 rfl rfl w_37 (fun _ => rfl) (by decide) (by decide) (by decide) (by decide) (by decide) (fun b3 hb3 => ?_)
  have n03 : b0 ≠ b3 := gm_nn h0 hb3
  have n13 : b1 ≠ b3 := gm_nn h1 hb3
  have n23 : b2 ≠ b3 := gm_nn h2 hb3
  refine gj_putF C dX3_init_37 (gm_up_of hy hb3) rfl inX3 tyX3_ok nmX3 4 (by decide) w_333 rfl hnm rfl rfl rfl (Nat.le_of_ble_eq_true rfl) ?_
  have ny3 : y ≠ b3 := gm_nn hy hb3
  have h0 : gm_up (gm_up f b3 (aI cI 4096 (fun _ => 0))) y (.inr (3, [.int 0, .ref b0, .ref b1, .ref b2, .ref b3, .null, .null, .null, .int 0, .int 0, .int 0, .int 0, .int 0, .int 0, .int 0, .int 0, .null])) b0 = some (aZ cZ (fun _ => 0)) := by rw [gm_up_ne (Ne.symm ny0), gm_up_ne n03]; exact h0
  have h1 : gm_up (gm_up f b3 (aI cI 4096 (fun _ => 0))) y (.inr (3, [.int 0, .ref b0, .ref b1, .ref b2, .ref b3, .null, .null, .null, .int 0, .int 0, .int 0, .int 0, .int 0, .int 0, .int 0, .int 0, .null])) b1 = some (aI cI 4096 (fun _ => 0)) := by rw [gm_up_ne (Ne.symm ny1), gm_up_ne n13]; exact h1
  have h2 : gm_up (gm_up f b3 (aI cI 4096 (fun _ => 0))) y (.inr (3, [.int 0, .ref b0, .ref b1, .ref b2, .ref b3, .null, .null, .null, .int 0, .int 0, .int 0, .int 0, .int 0, .int 0, .int 0, .int 0, .null])) b2 = some (aI cI 4096 (fun _ => 0)) := by rw [gm_up_ne (Ne.symm ny2), gm_up_ne n23]; exact h2
  have h3 : gm_up (gm_up f b3 (aI cI 4096 (fun _ => 0))) y (.inr (3, [.int 0, .ref b0, .ref b1, .ref b2, .ref b3, .null, .null, .null, .int 0, .int 0, .int 0, .int 0, .int 0, .int 0, .int 0, .int 0, .null])) b3 = some (aI cI 4096 (fun _ => 0)) := by rw [gm_up_ne (Ne.symm ny3), gm_up_self]
  have hy : gm_up (gm_up f b3 (aI cI 4096 (fun _ => 0))) y (.inr (3, [.int 0, .ref b0, .ref b1, .ref b2, .ref b3, .null, .null, .null, .int 0, .int 0, .int 0, .int 0, .int 0, .int 0, .int 0, .int 0, .null])) y = _ := gm_up_self
  refine gj_f (f' := gm_up (gm_up f b3 (aI cI 4096 (fun _ => 0))) y (.inr (3, [.int 0, .ref b0, .ref b1, .ref b2, .ref b3, .null, .null, .null, .int 0, .int 0, .int 0, .int 0, .int 0, .int 0, .int 0, .int 0, .null]))) rfl ?_
  generalize gm_up (gm_up f b3 (aI cI 4096 (fun _ => 0))) y (.inr (3, [.int 0, .ref b0, .ref b1, .ref b2, .ref b3, .null, .null, .null, .int 0, .int 0, .int 0, .int 0, .int 0, .int 0, .int 0, .int 0, .null])) = f at h0 h1 h2 h3 hy ⊢
  refine gj_aload_n C dX3_init_40 rfl ?_
  refine gj_sipush (v := 4096) C dX3_init_41 (by decide) ?_
  refine gj_newa (N := 4096) (a0 := (4096, .inl (fun _ => 0))) (nc := 3) (ns := 12288) C 0 dX3_init_44 rfl rfl w_37 (fun _ => rfl) (by decide) (by decide) (by decide) (by decide) (by decide) (fun b4 hb4 => ?_)
  have n04 : b0 ≠ b4 := gm_nn h0 hb4
  have n14 : b1 ≠ b4 := gm_nn h1 hb4
  have n24 : b2 ≠ b4 := gm_nn h2 hb4
  have n34 : b3 ≠ b4 := gm_nn h3 hb4
  refine gj_putF C dX3_init_46 (gm_up_of hy hb4) rfl inX3 tyX3_ok nmX3 5 (by decide) w_334 rfl hnm rfl rfl rfl (Nat.le_of_ble_eq_true rfl) ?_
  have ny4 : y ≠ b4 := gm_nn hy hb4
  have h0 : gm_up (gm_up f b4 (aI cI 4096 (fun _ => 0))) y (.inr (3, [.int 0, .ref b0, .ref b1, .ref b2, .ref b3, .ref b4, .null, .null, .int 0, .int 0, .int 0, .int 0, .int 0, .int 0, .int 0, .int 0, .null])) b0 = some (aZ cZ (fun _ => 0)) := by rw [gm_up_ne (Ne.symm ny0), gm_up_ne n04]; exact h0
  have h1 : gm_up (gm_up f b4 (aI cI 4096 (fun _ => 0))) y (.inr (3, [.int 0, .ref b0, .ref b1, .ref b2, .ref b3, .ref b4, .null, .null, .int 0, .int 0, .int 0, .int 0, .int 0, .int 0, .int 0, .int 0, .null])) b1 = some (aI cI 4096 (fun _ => 0)) := by rw [gm_up_ne (Ne.symm ny1), gm_up_ne n14]; exact h1
  have h2 : gm_up (gm_up f b4 (aI cI 4096 (fun _ => 0))) y (.inr (3, [.int 0, .ref b0, .ref b1, .ref b2, .ref b3, .ref b4, .null, .null, .int 0, .int 0, .int 0, .int 0, .int 0, .int 0, .int 0, .int 0, .null])) b2 = some (aI cI 4096 (fun _ => 0)) := by rw [gm_up_ne (Ne.symm ny2), gm_up_ne n24]; exact h2
  have h3 : gm_up (gm_up f b4 (aI cI 4096 (fun _ => 0))) y (.inr (3, [.int 0, .ref b0, .ref b1, .ref b2, .ref b3, .ref b4, .null, .null, .int 0, .int 0, .int 0, .int 0, .int 0, .int 0, .int 0, .int 0, .null])) b3 = some (aI cI 4096 (fun _ => 0)) := by rw [gm_up_ne (Ne.symm ny3), gm_up_ne n34]; exact h3
  have h4 : gm_up (gm_up f b4 (aI cI 4096 (fun _ => 0))) y (.inr (3, [.int 0, .ref b0, .ref b1, .ref b2, .ref b3, .ref b4, .null, .null, .int 0, .int 0, .int 0, .int 0, .int 0, .int 0, .int 0, .int 0, .null])) b4 = some (aI cI 4096 (fun _ => 0)) := by rw [gm_up_ne (Ne.symm ny4), gm_up_self]
  have hy : gm_up (gm_up f b4 (aI cI 4096 (fun _ => 0))) y (.inr (3, [.int 0, .ref b0, .ref b1, .ref b2, .ref b3, .ref b4, .null, .null, .int 0, .int 0, .int 0, .int 0, .int 0, .int 0, .int 0, .int 0, .null])) y = _ := gm_up_self
  refine gj_f (f' := gm_up (gm_up f b4 (aI cI 4096 (fun _ => 0))) y (.inr (3, [.int 0, .ref b0, .ref b1, .ref b2, .ref b3, .ref b4, .null, .null, .int 0, .int 0, .int 0, .int 0, .int 0, .int 0, .int 0, .int 0, .null]))) rfl ?_
  generalize gm_up (gm_up f b4 (aI cI 4096 (fun _ => 0))) y (.inr (3, [.int 0, .ref b0, .ref b1, .ref b2, .ref b3, .ref b4, .null, .null, .int 0, .int 0, .int 0, .int 0, .int 0, .int 0, .int 0, .int 0, .null])) = f at h0 h1 h2 h3 h4 hy ⊢
  refine gj_aload_n C dX3_init_49 rfl ?_
  refine gj_sipush (v := 4096) C dX3_init_50 (by decide) ?_
  refine gj_newa (N := 4096) (a0 := (4096, .inl (fun _ => 0))) (nc := 2) (ns := 8192) C 0 dX3_init_53 rfl rfl w_37 (fun _ => rfl) (by decide) (by decide) (by decide) (by decide) (by decide) (fun b5 hb5 => ?_)
  have n05 : b0 ≠ b5 := gm_nn h0 hb5
  have n15 : b1 ≠ b5 := gm_nn h1 hb5
  have n25 : b2 ≠ b5 := gm_nn h2 hb5
  have n35 : b3 ≠ b5 := gm_nn h3 hb5
  have n45 : b4 ≠ b5 := gm_nn h4 hb5
  refine gj_putF C dX3_init_55 (gm_up_of hy hb5) rfl inX3 tyX3_ok nmX3 6 (by decide) w_335 rfl hnm rfl rfl rfl (Nat.le_of_ble_eq_true rfl) ?_
  have ny5 : y ≠ b5 := gm_nn hy hb5
  have h0 : gm_up (gm_up f b5 (aI cI 4096 (fun _ => 0))) y (.inr (3, [.int 0, .ref b0, .ref b1, .ref b2, .ref b3, .ref b4, .ref b5, .null, .int 0, .int 0, .int 0, .int 0, .int 0, .int 0, .int 0, .int 0, .null])) b0 = some (aZ cZ (fun _ => 0)) := by rw [gm_up_ne (Ne.symm ny0), gm_up_ne n05]; exact h0
  have h1 : gm_up (gm_up f b5 (aI cI 4096 (fun _ => 0))) y (.inr (3, [.int 0, .ref b0, .ref b1, .ref b2, .ref b3, .ref b4, .ref b5, .null, .int 0, .int 0, .int 0, .int 0, .int 0, .int 0, .int 0, .int 0, .null])) b1 = some (aI cI 4096 (fun _ => 0)) := by rw [gm_up_ne (Ne.symm ny1), gm_up_ne n15]; exact h1
  have h2 : gm_up (gm_up f b5 (aI cI 4096 (fun _ => 0))) y (.inr (3, [.int 0, .ref b0, .ref b1, .ref b2, .ref b3, .ref b4, .ref b5, .null, .int 0, .int 0, .int 0, .int 0, .int 0, .int 0, .int 0, .int 0, .null])) b2 = some (aI cI 4096 (fun _ => 0)) := by rw [gm_up_ne (Ne.symm ny2), gm_up_ne n25]; exact h2
  have h3 : gm_up (gm_up f b5 (aI cI 4096 (fun _ => 0))) y (.inr (3, [.int 0, .ref b0, .ref b1, .ref b2, .ref b3, .ref b4, .ref b5, .null, .int 0, .int 0, .int 0, .int 0, .int 0, .int 0, .int 0, .int 0, .null])) b3 = some (aI cI 4096 (fun _ => 0)) := by rw [gm_up_ne (Ne.symm ny3), gm_up_ne n35]; exact h3
  have h4 : gm_up (gm_up f b5 (aI cI 4096 (fun _ => 0))) y (.inr (3, [.int 0, .ref b0, .ref b1, .ref b2, .ref b3, .ref b4, .ref b5, .null, .int 0, .int 0, .int 0, .int 0, .int 0, .int 0, .int 0, .int 0, .null])) b4 = some (aI cI 4096 (fun _ => 0)) := by rw [gm_up_ne (Ne.symm ny4), gm_up_ne n45]; exact h4
  have h5 : gm_up (gm_up f b5 (aI cI 4096 (fun _ => 0))) y (.inr (3, [.int 0, .ref b0, .ref b1, .ref b2, .ref b3, .ref b4, .ref b5, .null, .int 0, .int 0, .int 0, .int 0, .int 0, .int 0, .int 0, .int 0, .null])) b5 = some (aI cI 4096 (fun _ => 0)) := by rw [gm_up_ne (Ne.symm ny5), gm_up_self]
  have hy : gm_up (gm_up f b5 (aI cI 4096 (fun _ => 0))) y (.inr (3, [.int 0, .ref b0, .ref b1, .ref b2, .ref b3, .ref b4, .ref b5, .null, .int 0, .int 0, .int 0, .int 0, .int 0, .int 0, .int 0, .int 0, .null])) y = _ := gm_up_self
  refine gj_f (f' := gm_up (gm_up f b5 (aI cI 4096 (fun _ => 0))) y (.inr (3, [.int 0, .ref b0, .ref b1, .ref b2, .ref b3, .ref b4, .ref b5, .null, .int 0, .int 0, .int 0, .int 0, .int 0, .int 0, .int 0, .int 0, .null]))) rfl ?_
  generalize gm_up (gm_up f b5 (aI cI 4096 (fun _ => 0))) y (.inr (3, [.int 0, .ref b0, .ref b1, .ref b2, .ref b3, .ref b4, .ref b5, .null, .int 0, .int 0, .int 0, .int 0, .int 0, .int 0, .int 0, .int 0, .null])) = f at h0 h1 h2 h3 h4 h5 hy ⊢
  refine gj_aload_n C dX3_init_58 rfl ?_
  refine gj_sipush (v := 4096) C dX3_init_59 (by decide) ?_
  refine gj_newa (N := 4096) (a0 := (4096, .inl (fun _ => 0))) (nc := 1) (ns := 4096) C 0 dX3_init_62 rfl rfl w_37 (fun _ => rfl) (by decide) (by decide) (by decide) (by decide) (by decide) (fun b6 hb6 => ?_)
  have n06 : b0 ≠ b6 := gm_nn h0 hb6
  have n16 : b1 ≠ b6 := gm_nn h1 hb6
  have n26 : b2 ≠ b6 := gm_nn h2 hb6
  have n36 : b3 ≠ b6 := gm_nn h3 hb6
  have n46 : b4 ≠ b6 := gm_nn h4 hb6
  have n56 : b5 ≠ b6 := gm_nn h5 hb6
  refine gj_putF C dX3_init_64 (gm_up_of hy hb6) rfl inX3 tyX3_ok nmX3 7 (by decide) w_336 rfl hnm rfl rfl rfl (Nat.le_of_ble_eq_true rfl) ?_
  have ny6 : y ≠ b6 := gm_nn hy hb6
  have h0 : gm_up (gm_up f b6 (aI cI 4096 (fun _ => 0))) y (.inr (3, [.int 0, .ref b0, .ref b1, .ref b2, .ref b3, .ref b4, .ref b5, .ref b6, .int 0, .int 0, .int 0, .int 0, .int 0, .int 0, .int 0, .int 0, .null])) b0 = some (aZ cZ (fun _ => 0)) := by rw [gm_up_ne (Ne.symm ny0), gm_up_ne n06]; exact h0
  have h1 : gm_up (gm_up f b6 (aI cI 4096 (fun _ => 0))) y (.inr (3, [.int 0, .ref b0, .ref b1, .ref b2, .ref b3, .ref b4, .ref b5, .ref b6, .int 0, .int 0, .int 0, .int 0, .int 0, .int 0, .int 0, .int 0, .null])) b1 = some (aI cI 4096 (fun _ => 0)) := by rw [gm_up_ne (Ne.symm ny1), gm_up_ne n16]; exact h1
  have h2 : gm_up (gm_up f b6 (aI cI 4096 (fun _ => 0))) y (.inr (3, [.int 0, .ref b0, .ref b1, .ref b2, .ref b3, .ref b4, .ref b5, .ref b6, .int 0, .int 0, .int 0, .int 0, .int 0, .int 0, .int 0, .int 0, .null])) b2 = some (aI cI 4096 (fun _ => 0)) := by rw [gm_up_ne (Ne.symm ny2), gm_up_ne n26]; exact h2
  have h3 : gm_up (gm_up f b6 (aI cI 4096 (fun _ => 0))) y (.inr (3, [.int 0, .ref b0, .ref b1, .ref b2, .ref b3, .ref b4, .ref b5, .ref b6, .int 0, .int 0, .int 0, .int 0, .int 0, .int 0, .int 0, .int 0, .null])) b3 = some (aI cI 4096 (fun _ => 0)) := by rw [gm_up_ne (Ne.symm ny3), gm_up_ne n36]; exact h3
  have h4 : gm_up (gm_up f b6 (aI cI 4096 (fun _ => 0))) y (.inr (3, [.int 0, .ref b0, .ref b1, .ref b2, .ref b3, .ref b4, .ref b5, .ref b6, .int 0, .int 0, .int 0, .int 0, .int 0, .int 0, .int 0, .int 0, .null])) b4 = some (aI cI 4096 (fun _ => 0)) := by rw [gm_up_ne (Ne.symm ny4), gm_up_ne n46]; exact h4
  have h5 : gm_up (gm_up f b6 (aI cI 4096 (fun _ => 0))) y (.inr (3, [.int 0, .ref b0, .ref b1, .ref b2, .ref b3, .ref b4, .ref b5, .ref b6, .int 0, .int 0, .int 0, .int 0, .int 0, .int 0, .int 0, .int 0, .null])) b5 = some (aI cI 4096 (fun _ => 0)) := by rw [gm_up_ne (Ne.symm ny5), gm_up_ne n56]; exact h5
  have h6 : gm_up (gm_up f b6 (aI cI 4096 (fun _ => 0))) y (.inr (3, [.int 0, .ref b0, .ref b1, .ref b2, .ref b3, .ref b4, .ref b5, .ref b6, .int 0, .int 0, .int 0, .int 0, .int 0, .int 0, .int 0, .int 0, .null])) b6 = some (aI cI 4096 (fun _ => 0)) := by rw [gm_up_ne (Ne.symm ny6), gm_up_self]
  have hy : gm_up (gm_up f b6 (aI cI 4096 (fun _ => 0))) y (.inr (3, [.int 0, .ref b0, .ref b1, .ref b2, .ref b3, .ref b4, .ref b5, .ref b6, .int 0, .int 0, .int 0, .int 0, .int 0, .int 0, .int 0, .int 0, .null])) y = _ := gm_up_self
  refine gj_f (f' := gm_up (gm_up f b6 (aI cI 4096 (fun _ => 0))) y (.inr (3, [.int 0, .ref b0, .ref b1, .ref b2, .ref b3, .ref b4, .ref b5, .ref b6, .int 0, .int 0, .int 0, .int 0, .int 0, .int 0, .int 0, .int 0, .null]))) rfl ?_
  generalize gm_up (gm_up f b6 (aI cI 4096 (fun _ => 0))) y (.inr (3, [.int 0, .ref b0, .ref b1, .ref b2, .ref b3, .ref b4, .ref b5, .ref b6, .int 0, .int 0, .int 0, .int 0, .int 0, .int 0, .int 0, .int 0, .null])) = f at h0 h1 h2 h3 h4 h5 h6 hy ⊢
  refine gj_aload_n C dX3_init_67 rfl ?_
  refine gj_sipush (v := 4096) C dX3_init_68 (by decide) ?_
  refine gj_newa (N := 4096) (a0 := (4096, .inl (fun _ => 0))) (nc := 0) (ns := 0) C 0 dX3_init_71 rfl rfl w_37 (fun _ => rfl) (by decide) (by decide) (by decide) (by decide) (by decide) (fun b7 hb7 => ?_)
  have n07 : b0 ≠ b7 := gm_nn h0 hb7
  have n17 : b1 ≠ b7 := gm_nn h1 hb7
  have n27 : b2 ≠ b7 := gm_nn h2 hb7
  have n37 : b3 ≠ b7 := gm_nn h3 hb7
  have n47 : b4 ≠ b7 := gm_nn h4 hb7
  have n57 : b5 ≠ b7 := gm_nn h5 hb7
  have n67 : b6 ≠ b7 := gm_nn h6 hb7
  refine gj_putF C dX3_init_73 (gm_up_of hy hb7) rfl inX3 tyX3_ok nmX3 16 (by decide) w_345 rfl hnm rfl rfl rfl (Nat.le_of_ble_eq_true rfl) ?_
  have ny7 : y ≠ b7 := gm_nn hy hb7
  have h0 : gm_up (gm_up f b7 (aI cI 4096 (fun _ => 0))) y (.inr (3, [.int 0, .ref b0, .ref b1, .ref b2, .ref b3, .ref b4, .ref b5, .ref b6, .int 0, .int 0, .int 0, .int 0, .int 0, .int 0, .int 0, .int 0, .ref b7])) b0 = some (aZ cZ (fun _ => 0)) := by rw [gm_up_ne (Ne.symm ny0), gm_up_ne n07]; exact h0
  have h1 : gm_up (gm_up f b7 (aI cI 4096 (fun _ => 0))) y (.inr (3, [.int 0, .ref b0, .ref b1, .ref b2, .ref b3, .ref b4, .ref b5, .ref b6, .int 0, .int 0, .int 0, .int 0, .int 0, .int 0, .int 0, .int 0, .ref b7])) b1 = some (aI cI 4096 (fun _ => 0)) := by rw [gm_up_ne (Ne.symm ny1), gm_up_ne n17]; exact h1
  have h2 : gm_up (gm_up f b7 (aI cI 4096 (fun _ => 0))) y (.inr (3, [.int 0, .ref b0, .ref b1, .ref b2, .ref b3, .ref b4, .ref b5, .ref b6, .int 0, .int 0, .int 0, .int 0, .int 0, .int 0, .int 0, .int 0, .ref b7])) b2 = some (aI cI 4096 (fun _ => 0)) := by rw [gm_up_ne (Ne.symm ny2), gm_up_ne n27]; exact h2
  have h3 : gm_up (gm_up f b7 (aI cI 4096 (fun _ => 0))) y (.inr (3, [.int 0, .ref b0, .ref b1, .ref b2, .ref b3, .ref b4, .ref b5, .ref b6, .int 0, .int 0, .int 0, .int 0, .int 0, .int 0, .int 0, .int 0, .ref b7])) b3 = some (aI cI 4096 (fun _ => 0)) := by rw [gm_up_ne (Ne.symm ny3), gm_up_ne n37]; exact h3
  have h4 : gm_up (gm_up f b7 (aI cI 4096 (fun _ => 0))) y (.inr (3, [.int 0, .ref b0, .ref b1, .ref b2, .ref b3, .ref b4, .ref b5, .ref b6, .int 0, .int 0, .int 0, .int 0, .int 0, .int 0, .int 0, .int 0, .ref b7])) b4 = some (aI cI 4096 (fun _ => 0)) := by rw [gm_up_ne (Ne.symm ny4), gm_up_ne n47]; exact h4
  have h5 : gm_up (gm_up f b7 (aI cI 4096 (fun _ => 0))) y (.inr (3, [.int 0, .ref b0, .ref b1, .ref b2, .ref b3, .ref b4, .ref b5, .ref b6, .int 0, .int 0, .int 0, .int 0, .int 0, .int 0, .int 0, .int 0, .ref b7])) b5 = some (aI cI 4096 (fun _ => 0)) := by rw [gm_up_ne (Ne.symm ny5), gm_up_ne n57]; exact h5
  have h6 : gm_up (gm_up f b7 (aI cI 4096 (fun _ => 0))) y (.inr (3, [.int 0, .ref b0, .ref b1, .ref b2, .ref b3, .ref b4, .ref b5, .ref b6, .int 0, .int 0, .int 0, .int 0, .int 0, .int 0, .int 0, .int 0, .ref b7])) b6 = some (aI cI 4096 (fun _ => 0)) := by rw [gm_up_ne (Ne.symm ny6), gm_up_ne n67]; exact h6
  have h7 : gm_up (gm_up f b7 (aI cI 4096 (fun _ => 0))) y (.inr (3, [.int 0, .ref b0, .ref b1, .ref b2, .ref b3, .ref b4, .ref b5, .ref b6, .int 0, .int 0, .int 0, .int 0, .int 0, .int 0, .int 0, .int 0, .ref b7])) b7 = some (aI cI 4096 (fun _ => 0)) := by rw [gm_up_ne (Ne.symm ny7), gm_up_self]
  have hy : gm_up (gm_up f b7 (aI cI 4096 (fun _ => 0))) y (.inr (3, [.int 0, .ref b0, .ref b1, .ref b2, .ref b3, .ref b4, .ref b5, .ref b6, .int 0, .int 0, .int 0, .int 0, .int 0, .int 0, .int 0, .int 0, .ref b7])) y = _ := gm_up_self
  refine gj_f (f' := gm_up (gm_up f b7 (aI cI 4096 (fun _ => 0))) y (.inr (3, [.int 0, .ref b0, .ref b1, .ref b2, .ref b3, .ref b4, .ref b5, .ref b6, .int 0, .int 0, .int 0, .int 0, .int 0, .int 0, .int 0, .int 0, .ref b7]))) rfl ?_
  generalize gm_up (gm_up f b7 (aI cI 4096 (fun _ => 0))) y (.inr (3, [.int 0, .ref b0, .ref b1, .ref b2, .ref b3, .ref b4, .ref b5, .ref b6, .int 0, .int 0, .int 0, .int 0, .int 0, .int 0, .int 0, .int 0, .ref b7])) = f at h0 h1 h2 h3 h4 h5 h6 h7 hy ⊢
  have hnd : ([b0, b1, b2, b3, b4, b5, b6, b7] : List Nat).Nodup := by simp [n01, n02, n12, n03, n13, n23, n04, n14, n24, n34, n05, n15, n25, n35, n45, n06, n16, n26, n36, n46, n56, n07, n17, n27, n37, n47, n57, n67]
  have hrm : rma cI cZ f (fun k => ([b0, b1, b2, b3, b4, b5, b6, b7] : List Nat).getD k 0) (fun _ _ => 0) := ⟨h0, fun k k1 k2 => by
    rcases (show k = 1 ∨ k = 2 ∨ k = 3 ∨ k = 4 ∨ k = 5 ∨ k = 6 ∨ k = 7 by omega) with rfl | rfl | rfl | rfl | rfl | rfl | rfl
    · exact h1
    · exact h2
    · exact h3
    · exact h4
    · exact h5
    · exact h6
    · exact h7⟩
  have ecn : cn (fun _ => none) 4096 = 0 := by
    have := cn_none (en := fun _ => none) (n := 0) (fun _ _ => rfl) 4096 (by omega)
    rw [this]
    rfl
  exact gj_vret C hr hlk dX3_init_76 (⟨rfl, (fun k => ([b0, b1, b2, b3, b4, b5, b6, b7] : List Nat).getD k 0), (fun _ _ => 0), 0, (0, 0, 0, 0, 0), by rw [ecn]; exact ⟨⟨hy, hrm⟩, fun i j hi hj e => ad_inj hnd i j hi hj e, rfl, fun j _ => rfl, fun _ _ => rfl, Nat.zero_le _, fun j hj => absurd hj (Nat.not_lt_zero _)⟩⟩)
set_option maxRecDepth 100000 in
set_option maxHeartbeats 4000000 in
theorem k_Mdrop (l : Launch) (D : va_G) (cI cN cZ cJ : ClassId) (f : gm) (y : Nat) (cd : Int32) (nx : Option Rc) (en : Nat → Option En) (ml : List Nat) (wo : Int32) (hR : RpM cI cZ f y cd nx en ml) : gk l yX3_drop (.code yX3_drop cX3_drop 4 (Option.some Jvm.ClassFile.FieldType.int)) (rmk 1 0 0) D (tyl cI cN cZ cJ) [.ref y, .int wo] f (fun v u => v = some (.int (nI (cbE (chD wo) en 4096))) ∧ RpM cI cZ u y 0 nx (mapE (phD wo) en) ml) := by
  refine gk_of [some (.ref y), some (.int wo), none, none] (by decide) rfl (Nat.le_of_ble_eq_true rfl) rfl ?_
  intro p e s m args below meth c A C hV hr hlk hnm
  have hd : ∀ j, 4096 ≤ j → en j = none := hR.hd
  have loop : ∀ (d i : Nat) (f : gm), i + d = 4096 → RpM cI cZ f y 0 nx (mapI (phD wo) en i) ml → gj p l e (rmk 1 0 0) s m args below meth c D vwCl A 4 (MQ below (gk_Q (fun v u => v = some (.int (nI (cbE (chD wo) en 4096))) ∧ RpM cI cZ u y 0 nx (mapE (phD wo) en) ml) D A) args s (rmk 1 0 0).cells (rmk 1 0 0).slots A) f 0 0 9 [some (.ref y), some (.int wo), some (.int (nI (cbE (chD wo) en i))), some (.int (nI i))] [] := by
    intro d
    induction d with
    | zero =>
      intro i f hid hR
      rw [show mapI (phD wo) en i = mapI (phD wo) en 4096 by rw [show i = 4096 by omega]] at hR
      obtain ⟨ad, ga, isR, r5, hW⟩ := hR
      refine gj_iload_n C dX3_drop_9 rfl ?_
      refine gj_sipush (v := 4096) C dX3_drop_10 (by decide) ?_
      refine gj_icmp_geT (tgt := 52) C dX3_drop_13 (by decide) (by rw [show i = 4096 by omega]; decide) ?_
      refine gj_iload_n C dX3_drop_52 rfl ?_
      exact gj_iret C hr hlk dX3_drop_53 (⟨by rw [show i = 4096 by omega], by rw [← mapI_end (φ := (phD wo)) hd]; exact ⟨ad, ga, isR, r5, hW⟩⟩)
    | succ d ih =>
      intro i f hid hR
      have hj : i < 4096 := by omega
      obtain ⟨ad, ga, isR, r5, hW⟩ := hR
      cases hei : en i with
      | none =>
        have g0 := rpm_no hW hj (mapI_at.trans hei)
        refine gj_iload_n C dX3_drop_9 rfl ?_
        refine gj_sipush (v := 4096) C dX3_drop_10 (by decide) ?_
        refine gj_icmp_geF (tgt := 52) C dX3_drop_13 (by decide) (nI_ge hj (by decide)) ?_
        refine gj_aload_n C dX3_drop_16 rfl ?_
        refine gj_get C dX3_drop_17 hW.1.1 rfl inX3 1 (by decide) w_330 rfl ?_
        refine gj_iload_n C dX3_drop_20 rfl ?_
        refine gj_zaldN C 2 dX3_drop_21 hW.1.2.1 rfl hj (by decide) ?_
        refine gj_st (st' := [.int 0]) (by rw [g0]) ?_
        refine gj_if_eqT (tgt := 46) C dX3_drop_22 (by decide) rfl ?_
        refine gj_iinc (v := (nI (i + 1))) (lw' := [some (.ref y), some (.int wo), some (.int (nI (cbE (chD wo) en i))), some (.int (nI (i + 1)))]) C dX3_drop_46 rfl (nI_1 i) (by decide) rfl rfl ?_
        refine gj_goto (tgt := 9) C dX3_drop_49 (by decide) ?_
        have h9 := ih (i + 1) f (by omega) (by rw [mapI_n hei]; exact ⟨ad, ga, isR, r5, hW⟩)
        rw [cb_n hei] at h9
        exact h9
      | some e0 =>
        obtain ⟨g0, g1, g2, g3, g4, g5, g6⟩ := rpm_at hW hj (mapI_at.trans hei)
        refine gj_iload_n C dX3_drop_9 rfl ?_
        refine gj_sipush (v := 4096) C dX3_drop_10 (by decide) ?_
        refine gj_icmp_geF (tgt := 52) C dX3_drop_13 (by decide) (nI_ge hj (by decide)) ?_
        refine gj_aload_n C dX3_drop_16 rfl ?_
        refine gj_get C dX3_drop_17 hW.1.1 rfl inX3 1 (by decide) w_330 rfl ?_
        refine gj_iload_n C dX3_drop_20 rfl ?_
        refine gj_zaldN C 2 dX3_drop_21 hW.1.2.1 rfl hj (by decide) ?_
        refine gj_st (st' := [.int 1]) (by rw [g0]) ?_
        refine gj_if_eqF (tgt := 46) C dX3_drop_22 (by decide) (by decide) ?_
        refine gj_aload_n C dX3_drop_25 rfl ?_
        refine gj_get C dX3_drop_26 hW.1.1 rfl inX3 7 (by decide) w_336 rfl ?_
        refine gj_iload_n C dX3_drop_29 rfl ?_
        refine gj_ialdN C 0 dX3_drop_30 (hW.1.2.2 6 (by decide) (by decide)) rfl hj (by decide) ?_
        refine gj_st (st' := [.int e0.2]) (by rw [g6]) ?_
        refine gj_iload_n C dX3_drop_31 rfl ?_
        refine gj_icmp_eq (tgt := 38) C dX3_drop_32 (by decide) (fun c1 => ?_) (fun c1 => ?_)
        · refine gj_aload_n C dX3_drop_38 rfl ?_
          refine gj_iload_n C dX3_drop_39 rfl ?_
          refine gj_cV (As := [.int (nI i)]) (rest := []) (nc := 0) (ns := 0) C hV (k_Mgo l D cI cN cZ cJ f y _ nx _ ml ad _ isR r5 _ i hW hj) dX3_drop_40 rfl w_409 rfl w_406 w_2 w_408 ws_17 hd_X3_go rfl hW.1.1 rfl ⟨Nat.le_of_ble_eq_true rfl, Nat.le_of_ble_eq_true rfl⟩ (Nat.le_of_ble_eq_true rfl) (by decide) (by decide) (fun v u hp => ?_)
          refine gj_rt (st' := []) hp.1 hp.2 rfl ?_
          refine gj_iinc (v := (nI ((cbE (chD wo) en i) + 1))) (lw' := [some (.ref y), some (.int wo), some (.int (nI ((cbE (chD wo) en i) + 1))), some (.int (nI i))]) C dX3_drop_43 rfl (nI_1 (cbE (chD wo) en i)) (by decide) rfl rfl ?_
          refine gj_iinc (v := (nI (i + 1))) (lw' := [some (.ref y), some (.int wo), some (.int (nI ((cbE (chD wo) en i) + 1))), some (.int (nI (i + 1)))]) C dX3_drop_46 rfl (nI_1 i) (by decide) rfl rfl ?_
          refine gj_goto (tgt := 9) C dX3_drop_49 (by decide) ?_
          have h9 := ih (i + 1) _ (by omega) (by rw [mapI_s hei, phD_t c1]; exact ⟨ad, _, isR, r5, rpm_go hW hj (mapI_at.trans hei)⟩)
          rw [cb_t hei (decide_eq_true c1)] at h9
          exact h9
        · refine gj_goto (tgt := 46) C dX3_drop_35 (by decide) ?_
          refine gj_iinc (v := (nI (i + 1))) (lw' := [some (.ref y), some (.int wo), some (.int (nI (cbE (chD wo) en i))), some (.int (nI (i + 1)))]) C dX3_drop_46 rfl (nI_1 i) (by decide) rfl rfl ?_
          refine gj_goto (tgt := 9) C dX3_drop_49 (by decide) ?_
          have h9 := ih (i + 1) f (by omega) (by rw [mapI_k hei (phD_f c1)]; exact ⟨ad, ga, isR, r5, hW⟩)
          rw [cb_f hei (decide_eq_false c1)] at h9
          exact h9
  obtain ⟨ad, ga, isR, r5, hW⟩ := hR
  refine gj_aload_n C dX3_drop_0 rfl ?_
  refine gj_iconst (v := 0) C dX3_drop_1 (by decide) ?_
  refine gj_put C dX3_drop_2 hW.1.1 rfl inX3 tyX3_ok nmX3 0 (by decide) w_329 rfl rfl rfl (Nat.le_of_ble_eq_true rfl) ?_
  refine gj_f (f' := gm_up f y (cMo 0 ad (nI (cn en 4096)) isR r5 (nI ml.length))) rfl ?_
  have hW := rpm_cd hW 0 (nI (cn en 4096))
  generalize gm_up f y (cMo 0 ad (nI (cn en 4096)) isR r5 (nI ml.length)) = f at hW ⊢
  refine gj_iconst (v := 0) C dX3_drop_5 (by decide) ?_
  refine gj_istore_n (lw' := [some (.ref y), some (.int wo), some (.int 0), none]) C dX3_drop_6 (by decide) rfl rfl ?_
  refine gj_iconst (v := 0) C dX3_drop_7 (by decide) ?_
  refine gj_istore_n (lw' := [some (.ref y), some (.int wo), some (.int 0), some (.int 0)]) C dX3_drop_8 (by decide) rfl rfl ?_
  exact loop 4096 0 f (by omega) (by rw [mapI_0]; exact ⟨ad, ga, isR, r5, hW⟩)
set_option maxRecDepth 100000 in
set_option maxHeartbeats 4000000 in
theorem k_MmeetAll (l : Launch) (D : va_G) (cI cN cZ cJ : ClassId) (f : gm) (y : Nat) (cd : Int32) (nx : Option Rc) (en : Nat → Option En) (ml : List Nat) (s1 t1 l1 b1 r1 : Int32) (hR : RpM cI cZ f y cd nx en ml) : gk l yX3_meetAll (.code yX3_meetAll cX3_meetAll 7 (Option.some Jvm.ClassFile.FieldType.int)) (rmk 1 0 0) D (tyl cI cN cZ cJ) [.ref y, .int s1, .int t1, .int l1, .int b1, .int r1] f (fun v u => v = some (.int (nI (mls en (s1, t1, l1, b1, r1) 4096).length)) ∧ RpM cI cZ u y cd nx en (mls en (s1, t1, l1, b1, r1) 4096)) := by
  refine gk_of [some (.ref y), some (.int s1), some (.int t1), some (.int l1), some (.int b1), some (.int r1), none] (by decide) rfl (Nat.le_of_ble_eq_true rfl) rfl ?_
  intro p e s m args below meth c A C hV hr hlk hnm
  have loop : ∀ (d i : Nat) (f : gm), i + d = 4096 → RpM cI cZ f y cd nx en (mls en (s1, t1, l1, b1, r1) i) → gj p l e (rmk 1 0 0) s m args below meth c D vwCl A 7 (MQ below (gk_Q (fun v u => v = some (.int (nI (mls en (s1, t1, l1, b1, r1) 4096).length)) ∧ RpM cI cZ u y cd nx en (mls en (s1, t1, l1, b1, r1) 4096)) D A) args s (rmk 1 0 0).cells (rmk 1 0 0).slots A) f 0 0 8 [some (.ref y), some (.int s1), some (.int t1), some (.int l1), some (.int b1), some (.int r1), some (.int (nI i))] [] := by
    intro d
    induction d with
    | zero =>
      intro i f hid hR
      obtain ⟨ad, ga, isR, r5, hW⟩ := hR
      refine gj_iload C dX3_meetAll_8 rfl ?_
      refine gj_sipush (v := 4096) C dX3_meetAll_10 (by decide) ?_
      refine gj_icmp_geT (tgt := 62) C dX3_meetAll_13 (by decide) (by rw [show i = 4096 by omega]; decide) ?_
      refine gj_aload_n C dX3_meetAll_62 rfl ?_
      refine gj_get C dX3_meetAll_63 hW.1.1 rfl inX3 15 (by decide) w_344 rfl ?_
      exact gj_iret C hr hlk dX3_meetAll_66 (⟨by rw [show i = 4096 by omega], by rw [← show i = 4096 by omega]; exact ⟨ad, ga, isR, r5, hW⟩⟩)
    | succ d ih =>
      intro i f hid hR
      have hj : i < 4096 := by omega
      have hlen : (mls en (s1, t1, l1, b1, r1) i).length < 4096 := by have := mls_len en (s1, t1, l1, b1, r1) i; omega
      obtain ⟨ad, ga, isR, r5, hW⟩ := hR
      refine gj_iload C dX3_meetAll_8 rfl ?_
      refine gj_sipush (v := 4096) C dX3_meetAll_10 (by decide) ?_
      refine gj_icmp_geF (tgt := 62) C dX3_meetAll_13 (by decide) (nI_ge hj (by decide)) ?_
      refine gj_aload_n C dX3_meetAll_16 rfl ?_
      refine gj_iload C dX3_meetAll_17 rfl ?_
      refine gj_iload_n C dX3_meetAll_19 rfl ?_
      refine gj_iload_n C dX3_meetAll_20 rfl ?_
      refine gj_iload_n C dX3_meetAll_21 rfl ?_
      refine gj_iload C dX3_meetAll_22 rfl ?_
      refine gj_iload C dX3_meetAll_24 rfl ?_
      refine gj_cV (As := [.int (nI i), .int s1, .int t1, .int l1, .int b1, .int r1]) (rest := []) (nc := 0) (ns := 0) C hV (k_Mmeets l D cI cN cZ cJ f y _ nx en _ ad ga isR r5 _ i s1 t1 l1 b1 r1 hW hj) dX3_meetAll_26 rfl w_425 rfl w_422 w_2 w_424 ws_19 hd_X3_meets rfl hW.1.1 rfl ⟨Nat.le_of_ble_eq_true rfl, Nat.le_of_ble_eq_true rfl⟩ (Nat.le_of_ble_eq_true rfl) (by decide) (by decide) (fun v u hp1 => ?_)
      refine gj_rt (st' := [.int (bI (mtb en (s1, t1, l1, b1, r1) i))]) hp1.1 hp1.2 rfl ?_
      refine gj_if_ne (tgt := 35) C dX3_meetAll_29 (by decide) (fun c2 => ?_) (fun c2 => ?_)
      · refine gj_aload_n C dX3_meetAll_35 rfl ?_
        refine gj_get C dX3_meetAll_36 hW.1.1 rfl inX3 16 (by decide) w_345 rfl ?_
        refine gj_aload_n C dX3_meetAll_39 rfl ?_
        refine gj_get C dX3_meetAll_40 hW.1.1 rfl inX3 15 (by decide) w_344 rfl ?_
        refine gj_iload C dX3_meetAll_43 rfl ?_
        refine gj_iastN C 0 dX3_meetAll_45 (hW.1.2.2 7 (by decide) (by decide)) rfl hlen (by decide) ?_
        refine gj_aload_n C dX3_meetAll_46 rfl ?_
        refine gj_dup C dX3_meetAll_47 rfl ?_
        refine gj_get C dX3_meetAll_48 ((gm_up_ne (gm_ne hW.1.1 (hW.1.2.2 7 (by decide) (by decide)) (by simp))).trans hW.1.1) rfl inX3 15 (by decide) w_344 rfl ?_
        refine gj_iconst (v := 1) C dX3_meetAll_51 (by decide) ?_
        refine gj_iadd C dX3_meetAll_52 ?_
        refine gj_put C dX3_meetAll_53 ((gm_up_ne (gm_ne hW.1.1 (hW.1.2.2 7 (by decide) (by decide)) (by simp))).trans hW.1.1) rfl inX3 tyX3_ok nmX3 15 (by decide) w_344 rfl rfl rfl (Nat.le_of_ble_eq_true rfl) ?_
        refine gj_iinc (v := (nI (i + 1))) (lw' := [some (.ref y), some (.int s1), some (.int t1), some (.int l1), some (.int b1), some (.int r1), some (.int (nI (i + 1)))]) C dX3_meetAll_56 rfl (nI_1 i) (by decide) rfl rfl ?_
        refine gj_goto (tgt := 8) C dX3_meetAll_59 (by decide) ?_
        exact ih (i + 1) _ (by omega) (by rw [mls_t (bI_b1 c2)]; exact ⟨ad, _, isR, r5, rpm_ms hW hlen i⟩)
      · refine gj_goto (tgt := 56) C dX3_meetAll_32 (by decide) ?_
        refine gj_iinc (v := (nI (i + 1))) (lw' := [some (.ref y), some (.int s1), some (.int t1), some (.int l1), some (.int b1), some (.int r1), some (.int (nI (i + 1)))]) C dX3_meetAll_56 rfl (nI_1 i) (by decide) rfl rfl ?_
        refine gj_goto (tgt := 8) C dX3_meetAll_59 (by decide) ?_
        exact ih (i + 1) f (by omega) (by rw [mls_f (bI_b0 c2)]; exact ⟨ad, ga, isR, r5, hW⟩)
  obtain ⟨ad, ga, isR, r5, hW⟩ := hR
  refine gj_aload_n C dX3_meetAll_0 rfl ?_
  refine gj_iconst (v := 0) C dX3_meetAll_1 (by decide) ?_
  refine gj_put C dX3_meetAll_2 hW.1.1 rfl inX3 tyX3_ok nmX3 15 (by decide) w_344 rfl rfl rfl (Nat.le_of_ble_eq_true rfl) ?_
  refine gj_f (f' := gm_up f y (cMo cd ad (nI (cn en 4096)) isR r5 (nI ([] : List Nat).length))) rfl ?_
  have hW := rpm_y (ml' := []) hW cd (nI (cn en 4096)) hW.2.2.1 (Nat.zero_le _) (fun j hj => absurd hj (Nat.not_lt_zero _))
  generalize gm_up f y (cMo cd ad (nI (cn en 4096)) isR r5 (nI ([] : List Nat).length)) = f at hW ⊢
  refine gj_iconst (v := 0) C dX3_meetAll_5 (by decide) ?_
  refine gj_istore (lw' := [some (.ref y), some (.int s1), some (.int t1), some (.int l1), some (.int b1), some (.int r1), some (.int 0)]) C dX3_meetAll_6 (by decide) rfl rfl ?_
  exact loop 4096 0 f (by omega) ⟨ad, ga, isR, r5, hW⟩
set_option maxRecDepth 100000 in
set_option maxHeartbeats 4000000 in
theorem k_Mreaders (l : Launch) (D : va_G) (cI cN cZ cJ : ClassId) (f : gm) (y : Nat) (cd : Int32) (nx : Option Rc) (en : Nat → Option En) (ml : List Nat) (sh rw co : Int32) (hR : RpM cI cZ f y cd nx en ml) : gk l yX3_readers (.code yX3_readers cX3_readers 4 (Option.some Jvm.ClassFile.FieldType.int)) (rmk 2 0 0) D (tyl cI cN cZ cJ) [.ref y, .int sh, .int rw, .int co] f (fun v u => ∃ b, v = some (.int b) ∧ ((vc sh rw co ∧ b = nI (mls en (sh, rw, co, rw, co) 4096).length ∧ RpM cI cZ u y 0 nx en (mls en (sh, rw, co, rw, co) 4096)) ∨ (¬ vc sh rw co ∧ RpM cI cZ u y 1 nx en ml))) := by
  refine gk_of [some (.ref y), some (.int sh), some (.int rw), some (.int co)] (by decide) rfl (Nat.le_of_ble_eq_true rfl) rfl ?_
  intro p e s m args below meth c A C hV hr hlk hnm
  obtain ⟨ad, ga, isR, r5, hW⟩ := hR
  refine gj_aload_n C dX3_readers_0 rfl ?_
  refine gj_iload_n C dX3_readers_1 rfl ?_
  refine gj_iconst (v := 0) C dX3_readers_2 (by decide) ?_
  refine gj_bipush (v := 7) C dX3_readers_3 (by decide) ?_
  refine gj_cS (As := [.int sh, .int 0, .int 7]) (rest := [.ref y]) (nc := 0) (ns := 0) C hV (k_within l D (tyl cI cN cZ cJ) f sh 0 7) dX3_readers_5 rfl w_392 rfl w_390 w_2 w_391 hd_X3_within rfl ⟨Nat.le_of_ble_eq_true rfl, Nat.le_of_ble_eq_true rfl⟩ (Nat.le_of_ble_eq_true rfl) (by decide) (by decide) (fun v u hp1 => ?_)
  refine gj_rt (st' := [.int (bI (decide (wn sh 0 7))), .ref y]) hp1.1 hp1.2 rfl ?_
  refine gj_if_eq (tgt := 36) C dX3_readers_8 (by decide) (fun c2 => ?_) (fun c2 => ?_)
  · refine gj_iconst (v := 1) C dX3_readers_36 (by decide) ?_
    refine gj_put C dX3_readers_37 hW.1.1 rfl inX3 tyX3_ok nmX3 0 (by decide) w_329 rfl rfl rfl (Nat.le_of_ble_eq_true rfl) ?_
    refine gj_f (f' := gm_up f y (cMo 1 ad (nI (cn en 4096)) isR r5 (nI ml.length))) rfl ?_
    have hW := rpm_cd hW 1 (nI (cn en 4096))
    generalize gm_up f y (cMo 1 ad (nI (cn en 4096)) isR r5 (nI ml.length)) = f at hW ⊢
    refine gj_aload_n C dX3_readers_40 rfl ?_
    refine gj_get C dX3_readers_41 hW.1.1 rfl inX3 0 (by decide) w_329 rfl ?_
    refine gj_if_neT (tgt := 59) C dX3_readers_44 (by decide) (by decide) ?_
    refine gj_iconst (v := 0) C dX3_readers_59 (by decide) ?_
    exact gj_iret C hr hlk dX3_readers_60 (⟨_, rfl, Or.inr ⟨(by have qc2 := bI_p0 c2; revert qc2; simp only [i_le, i_lt, i_eq, t_0, t_1, t_5, t_7, t_8, t_16383, t_16384, t_32768, t_1048576, vs, vl, vc, vn, ll, rF, rL, rMeet, rIn, rY, if_true, if_false, Bool.false_eq_true, ite_true, ite_false, reduceIte, wn, vr]; (try intros); omega), ⟨ad, ga, isR, r5, hW⟩⟩⟩)
  · refine gj_iload_n C dX3_readers_11 rfl ?_
    refine gj_iconst (v := 1) C dX3_readers_12 (by decide) ?_
    refine gj_ldc (v := 1048576) C dX3_readers_13 w_393 ?_
    refine gj_cS (As := [.int rw, .int 1, .int 1048576]) (rest := [.ref y]) (nc := 0) (ns := 0) C hV (k_within l D (tyl cI cN cZ cJ) f rw 1 1048576) dX3_readers_15 rfl w_392 rfl w_390 w_2 w_391 hd_X3_within rfl ⟨Nat.le_of_ble_eq_true rfl, Nat.le_of_ble_eq_true rfl⟩ (Nat.le_of_ble_eq_true rfl) (by decide) (by decide) (fun v u hp3 => ?_)
    refine gj_rt (st' := [.int (bI (decide (wn rw 1 1048576))), .ref y]) hp3.1 hp3.2 rfl ?_
    refine gj_if_eq (tgt := 36) C dX3_readers_18 (by decide) (fun c4 => ?_) (fun c4 => ?_)
    · refine gj_iconst (v := 1) C dX3_readers_36 (by decide) ?_
      refine gj_put C dX3_readers_37 hW.1.1 rfl inX3 tyX3_ok nmX3 0 (by decide) w_329 rfl rfl rfl (Nat.le_of_ble_eq_true rfl) ?_
      refine gj_f (f' := gm_up f y (cMo 1 ad (nI (cn en 4096)) isR r5 (nI ml.length))) rfl ?_
      have hW := rpm_cd hW 1 (nI (cn en 4096))
      generalize gm_up f y (cMo 1 ad (nI (cn en 4096)) isR r5 (nI ml.length)) = f at hW ⊢
      refine gj_aload_n C dX3_readers_40 rfl ?_
      refine gj_get C dX3_readers_41 hW.1.1 rfl inX3 0 (by decide) w_329 rfl ?_
      refine gj_if_neT (tgt := 59) C dX3_readers_44 (by decide) (by decide) ?_
      refine gj_iconst (v := 0) C dX3_readers_59 (by decide) ?_
      exact gj_iret C hr hlk dX3_readers_60 (⟨_, rfl, Or.inr ⟨(by have qc2 := bI_p1 c2; have qc4 := bI_p0 c4; revert qc2 qc4; simp only [i_le, i_lt, i_eq, t_0, t_1, t_5, t_7, t_8, t_16383, t_16384, t_32768, t_1048576, vs, vl, vc, vn, ll, rF, rL, rMeet, rIn, rY, if_true, if_false, Bool.false_eq_true, ite_true, ite_false, reduceIte, wn, vr]; (try intros); omega), ⟨ad, ga, isR, r5, hW⟩⟩⟩)
    · refine gj_iload_n C dX3_readers_21 rfl ?_
      refine gj_iconst (v := 1) C dX3_readers_22 (by decide) ?_
      refine gj_sipush (v := 16384) C dX3_readers_23 (by decide) ?_
      refine gj_cS (As := [.int co, .int 1, .int 16384]) (rest := [.ref y]) (nc := 0) (ns := 0) C hV (k_within l D (tyl cI cN cZ cJ) f co 1 16384) dX3_readers_26 rfl w_392 rfl w_390 w_2 w_391 hd_X3_within rfl ⟨Nat.le_of_ble_eq_true rfl, Nat.le_of_ble_eq_true rfl⟩ (Nat.le_of_ble_eq_true rfl) (by decide) (by decide) (fun v u hp5 => ?_)
      refine gj_rt (st' := [.int (bI (decide (wn co 1 16384))), .ref y]) hp5.1 hp5.2 rfl ?_
      refine gj_if_eq (tgt := 36) C dX3_readers_29 (by decide) (fun c6 => ?_) (fun c6 => ?_)
      · refine gj_iconst (v := 1) C dX3_readers_36 (by decide) ?_
        refine gj_put C dX3_readers_37 hW.1.1 rfl inX3 tyX3_ok nmX3 0 (by decide) w_329 rfl rfl rfl (Nat.le_of_ble_eq_true rfl) ?_
        refine gj_f (f' := gm_up f y (cMo 1 ad (nI (cn en 4096)) isR r5 (nI ml.length))) rfl ?_
        have hW := rpm_cd hW 1 (nI (cn en 4096))
        generalize gm_up f y (cMo 1 ad (nI (cn en 4096)) isR r5 (nI ml.length)) = f at hW ⊢
        refine gj_aload_n C dX3_readers_40 rfl ?_
        refine gj_get C dX3_readers_41 hW.1.1 rfl inX3 0 (by decide) w_329 rfl ?_
        refine gj_if_neT (tgt := 59) C dX3_readers_44 (by decide) (by decide) ?_
        refine gj_iconst (v := 0) C dX3_readers_59 (by decide) ?_
        exact gj_iret C hr hlk dX3_readers_60 (⟨_, rfl, Or.inr ⟨(by have qc2 := bI_p1 c2; have qc4 := bI_p1 c4; have qc6 := bI_p0 c6; revert qc2 qc4 qc6; simp only [i_le, i_lt, i_eq, t_0, t_1, t_5, t_7, t_8, t_16383, t_16384, t_32768, t_1048576, vs, vl, vc, vn, ll, rF, rL, rMeet, rIn, rY, if_true, if_false, Bool.false_eq_true, ite_true, ite_false, reduceIte, wn, vr]; (try intros); omega), ⟨ad, ga, isR, r5, hW⟩⟩⟩)
      · refine gj_iconst (v := 0) C dX3_readers_32 (by decide) ?_
        refine gj_goto (tgt := 37) C dX3_readers_33 (by decide) ?_
        refine gj_put C dX3_readers_37 hW.1.1 rfl inX3 tyX3_ok nmX3 0 (by decide) w_329 rfl rfl rfl (Nat.le_of_ble_eq_true rfl) ?_
        refine gj_f (f' := gm_up f y (cMo 0 ad (nI (cn en 4096)) isR r5 (nI ml.length))) rfl ?_
        have hW := rpm_cd hW 0 (nI (cn en 4096))
        generalize gm_up f y (cMo 0 ad (nI (cn en 4096)) isR r5 (nI ml.length)) = f at hW ⊢
        refine gj_aload_n C dX3_readers_40 rfl ?_
        refine gj_get C dX3_readers_41 hW.1.1 rfl inX3 0 (by decide) w_329 rfl ?_
        refine gj_if_neF (tgt := 59) C dX3_readers_44 (by decide) rfl ?_
        refine gj_aload_n C dX3_readers_47 rfl ?_
        refine gj_iload_n C dX3_readers_48 rfl ?_
        refine gj_iload_n C dX3_readers_49 rfl ?_
        refine gj_iload_n C dX3_readers_50 rfl ?_
        refine gj_iload_n C dX3_readers_51 rfl ?_
        refine gj_iload_n C dX3_readers_52 rfl ?_
        refine gj_cV (As := [.int sh, .int rw, .int co, .int rw, .int co]) (rest := []) (nc := 0) (ns := 0) C hV (k_MmeetAll l D cI cN cZ cJ f y _ nx en ml sh rw co rw co ⟨ad, ga, isR, r5, hW⟩) dX3_readers_53 rfl w_421 rfl w_418 w_2 w_420 ws_18 hd_X3_meetAll rfl hW.1.1 rfl ⟨Nat.le_of_ble_eq_true rfl, Nat.le_of_ble_eq_true rfl⟩ (Nat.le_of_ble_eq_true rfl) (by decide) (by decide) (fun v u hp => ?_)
        refine gj_rt (f := u) (st' := [.int (nI (mls en (sh, rw, co, rw, co) 4096).length)]) hp.1 rfl rfl ?_
        refine gj_goto (tgt := 60) C dX3_readers_56 (by decide) ?_
        exact gj_iret C hr hlk dX3_readers_60 (⟨_, rfl, Or.inl ⟨(by have qc2 := bI_p1 c2; have qc4 := bI_p1 c4; have qc6 := bI_p1 c6; revert qc2 qc4 qc6; simp only [i_le, i_lt, i_eq, t_0, t_1, t_5, t_7, t_8, t_16383, t_16384, t_32768, t_1048576, vs, vl, vc, vn, ll, rF, rL, rMeet, rIn, rY, if_true, if_false, Bool.false_eq_true, ite_true, ite_false, reduceIte, wn, vr]; (try intros); omega), rfl, hp.2⟩⟩)
set_option maxRecDepth 100000 in
set_option maxHeartbeats 4000000 in
theorem k_Mmeet (l : Launch) (D : va_G) (cI cN cZ cJ : ClassId) (f : gm) (y : Nat) (cd : Int32) (nx : Option Rc) (en : Nat → Option En) (ml : List Nat) (hR : RpM cI cZ f y cd nx en ml) : gk l yX3_meet (.code yX3_meet cX3_meet 1 (Option.some Jvm.ClassFile.FieldType.int)) (rmk 2 0 0) D (tyl cI cN cZ cJ) [.ref y] f (fun v u => ∃ b, v = some (.int b) ∧ ((∃ r9, nx = some r9 ∧ b = nI (mls en r9 4096).length ∧ RpM cI cZ u y 0 nx en (mls en r9 4096)) ∨ (nx = none ∧ RpM cI cZ u y 1 nx en ml))) := by
  refine gk_of [some (.ref y)] (by decide) rfl (Nat.le_of_ble_eq_true rfl) rfl ?_
  intro p e s m args below meth c A C hV hr hlk hnm
  obtain ⟨ad, ga, isR, r5, hW⟩ := hR
  cases nx with
  | none =>
    have hq : isR = 0 := hW.2.2.1
    subst hq
    refine gj_aload_n C dX3_meet_0 rfl ?_
    refine gj_aload_n C dX3_meet_1 rfl ?_
    refine gj_get C dX3_meet_2 hW.1.1 rfl inX3 9 (by decide) w_338 rfl ?_
    refine gj_if_eqT (tgt := 12) C dX3_meet_5 (by decide) rfl ?_
    refine gj_iconst (v := 1) C dX3_meet_12 (by decide) ?_
    refine gj_put C dX3_meet_13 hW.1.1 rfl inX3 tyX3_ok nmX3 0 (by decide) w_329 rfl rfl rfl (Nat.le_of_ble_eq_true rfl) ?_
    refine gj_f (f' := gm_up f y (cMo 1 ad (nI (cn en 4096)) 0 r5 (nI ml.length))) rfl ?_
    have hW := rpm_cd hW 1 (nI (cn en 4096))
    generalize gm_up f y (cMo 1 ad (nI (cn en 4096)) 0 r5 (nI ml.length)) = f at hW ⊢
    refine gj_aload_n C dX3_meet_16 rfl ?_
    refine gj_get C dX3_meet_17 hW.1.1 rfl inX3 0 (by decide) w_329 rfl ?_
    refine gj_if_neT (tgt := 50) C dX3_meet_20 (by decide) (by decide) ?_
    refine gj_iconst (v := 0) C dX3_meet_50 (by decide) ?_
    exact gj_iret C hr hlk dX3_meet_51 (⟨_, rfl, Or.inr ⟨rfl, ⟨ad, ga, _, r5, hW⟩⟩⟩)
  | some r =>
    obtain ⟨hq, hr5⟩ : isR = 1 ∧ r5 = r := hW.2.2.1
    subst hq
    subst hr5
    refine gj_aload_n C dX3_meet_0 rfl ?_
    refine gj_aload_n C dX3_meet_1 rfl ?_
    refine gj_get C dX3_meet_2 hW.1.1 rfl inX3 9 (by decide) w_338 rfl ?_
    refine gj_if_eqF (tgt := 12) C dX3_meet_5 (by decide) (by decide) ?_
    refine gj_iconst (v := 0) C dX3_meet_8 (by decide) ?_
    refine gj_goto (tgt := 13) C dX3_meet_9 (by decide) ?_
    refine gj_put C dX3_meet_13 hW.1.1 rfl inX3 tyX3_ok nmX3 0 (by decide) w_329 rfl rfl rfl (Nat.le_of_ble_eq_true rfl) ?_
    refine gj_f (f' := gm_up f y (cMo 0 ad (nI (cn en 4096)) 1 r5 (nI ml.length))) rfl ?_
    have hW := rpm_cd hW 0 (nI (cn en 4096))
    generalize gm_up f y (cMo 0 ad (nI (cn en 4096)) 1 r5 (nI ml.length)) = f at hW ⊢
    refine gj_aload_n C dX3_meet_16 rfl ?_
    refine gj_get C dX3_meet_17 hW.1.1 rfl inX3 0 (by decide) w_329 rfl ?_
    refine gj_if_neF (tgt := 50) C dX3_meet_20 (by decide) rfl ?_
    refine gj_aload_n C dX3_meet_23 rfl ?_
    refine gj_aload_n C dX3_meet_24 rfl ?_
    refine gj_get C dX3_meet_25 hW.1.1 rfl inX3 10 (by decide) w_339 rfl ?_
    refine gj_aload_n C dX3_meet_28 rfl ?_
    refine gj_get C dX3_meet_29 hW.1.1 rfl inX3 11 (by decide) w_340 rfl ?_
    refine gj_aload_n C dX3_meet_32 rfl ?_
    refine gj_get C dX3_meet_33 hW.1.1 rfl inX3 12 (by decide) w_341 rfl ?_
    refine gj_aload_n C dX3_meet_36 rfl ?_
    refine gj_get C dX3_meet_37 hW.1.1 rfl inX3 13 (by decide) w_342 rfl ?_
    refine gj_aload_n C dX3_meet_40 rfl ?_
    refine gj_get C dX3_meet_41 hW.1.1 rfl inX3 14 (by decide) w_343 rfl ?_
    refine gj_cV (As := [.int r5.1, .int r5.2.1, .int r5.2.2.1, .int r5.2.2.2.1, .int r5.2.2.2.2]) (rest := []) (nc := 0) (ns := 0) C hV (k_MmeetAll l D cI cN cZ cJ f y _ _ en ml r5.1 r5.2.1 r5.2.2.1 r5.2.2.2.1 r5.2.2.2.2 ⟨ad, ga, _, r5, hW⟩) dX3_meet_44 rfl w_421 rfl w_418 w_2 w_420 ws_18 hd_X3_meetAll rfl hW.1.1 rfl ⟨Nat.le_of_ble_eq_true rfl, Nat.le_of_ble_eq_true rfl⟩ (Nat.le_of_ble_eq_true rfl) (by decide) (by decide) (fun v u hp => ?_)
    refine gj_rt (f := u) (st' := [.int (nI (mls en r5 4096).length)]) hp.1 rfl rfl ?_
    refine gj_goto (tgt := 51) C dX3_meet_47 (by decide) ?_
    exact gj_iret C hr hlk dX3_meet_51 (⟨_, rfl, Or.inl ⟨r5, rfl, rfl, hp.2⟩⟩)
set_option maxRecDepth 100000 in
set_option maxHeartbeats 4000000 in
theorem k_Madd (l : Launch) (D : va_G) (cI cN cZ cJ : ClassId) (f : gm) (y : Nat) (cd : Int32) (nx : Option Rc) (en : Nat → Option En) (ml : List Nat) (wo : Int32) (hR : RpM cI cZ f y cd nx en ml) (hex : ∃ i, i < 4096 ∧ lowE en i) : gk l yX3_add (.code yX3_add cX3_add 3 (Option.some Jvm.ClassFile.FieldType.int)) (rmk 1 0 0) D (tyl cI cN cZ cJ) [.ref y, .int wo] f (fun v u => ∃ b, v = some (.int b) ∧ ((∃ r9 i, nx = some r9 ∧ (0 ≤ wo ∧ wo < 16384) ∧ lowE en i ∧ b = nI i ∧ RpM cI cZ u y 0 nx (va_up en i (some (r9, wo))) ml) ∨ ((nx = none ∨ ¬ (0 ≤ wo ∧ wo < 16384)) ∧ RpM cI cZ u y 1 nx en ml))) := by
  refine gk_of [some (.ref y), some (.int wo), none] (by decide) rfl (Nat.le_of_ble_eq_true rfl) rfl ?_
  intro p e s m args below meth c A C hV hr hlk hnm
  obtain ⟨ad, ga, isR, r5, hW⟩ := hR
  cases nx with
  | none =>
    have hq : isR = 0 := hW.2.2.1
    subst hq
    refine gj_aload_n C dX3_add_0 rfl ?_
    refine gj_aload_n C dX3_add_1 rfl ?_
    refine gj_get C dX3_add_2 hW.1.1 rfl inX3 9 (by decide) w_338 rfl ?_
    refine gj_if_eqT (tgt := 19) C dX3_add_5 (by decide) rfl ?_
    refine gj_iconst (v := 1) C dX3_add_19 (by decide) ?_
    refine gj_goto (tgt := 24) C dX3_add_20 (by decide) ?_
    refine gj_put C dX3_add_24 hW.1.1 rfl inX3 tyX3_ok nmX3 0 (by decide) w_329 rfl rfl rfl (Nat.le_of_ble_eq_true rfl) ?_
    refine gj_f (f' := gm_up f y (cMo 1 ad (nI (cn en 4096)) 0 r5 (nI ml.length))) rfl ?_
    have hW := rpm_cd hW 1 (nI (cn en 4096))
    generalize gm_up f y (cMo 1 ad (nI (cn en 4096)) 0 r5 (nI ml.length)) = f at hW ⊢
    refine gj_aload_n C dX3_add_27 rfl ?_
    refine gj_get C dX3_add_28 hW.1.1 rfl inX3 0 (by decide) w_329 rfl ?_
    refine gj_if_eqF (tgt := 36) C dX3_add_31 (by decide) (by decide) ?_
    refine gj_iconst (v := 0) C dX3_add_34 (by decide) ?_
    exact gj_iret C hr hlk dX3_add_35 (⟨_, rfl, Or.inr ⟨Or.inl rfl, ⟨ad, ga, _, r5, hW⟩⟩⟩)
  | some r =>
    obtain ⟨hq, hr5⟩ : isR = 1 ∧ r5 = r := hW.2.2.1
    subst hq
    subst hr5
    refine gj_aload_n C dX3_add_0 rfl ?_
    refine gj_aload_n C dX3_add_1 rfl ?_
    refine gj_get C dX3_add_2 hW.1.1 rfl inX3 9 (by decide) w_338 rfl ?_
    refine gj_if_eqF (tgt := 19) C dX3_add_5 (by decide) (by decide) ?_
    refine gj_iload_n C dX3_add_8 rfl ?_
    refine gj_iconst (v := 0) C dX3_add_9 (by decide) ?_
    refine gj_sipush (v := 16383) C dX3_add_10 (by decide) ?_
    refine gj_cS (As := [.int wo, .int 0, .int 16383]) (rest := [.ref y]) (nc := 0) (ns := 0) C hV (k_within l D (tyl cI cN cZ cJ) f wo 0 16383) dX3_add_13 rfl w_392 rfl w_390 w_2 w_391 hd_X3_within rfl ⟨Nat.le_of_ble_eq_true rfl, Nat.le_of_ble_eq_true rfl⟩ (Nat.le_of_ble_eq_true rfl) (by decide) (by decide) (fun v u hp1 => ?_)
    refine gj_rt (st' := [.int (bI (decide (wn wo 0 16383))), .ref y]) hp1.1 hp1.2 rfl ?_
    refine gj_if_ne (tgt := 23) C dX3_add_16 (by decide) (fun c2 => ?_) (fun c2 => ?_)
    · refine gj_iconst (v := 0) C dX3_add_23 (by decide) ?_
      refine gj_put C dX3_add_24 hW.1.1 rfl inX3 tyX3_ok nmX3 0 (by decide) w_329 rfl rfl rfl (Nat.le_of_ble_eq_true rfl) ?_
      refine gj_f (f' := gm_up f y (cMo 0 ad (nI (cn en 4096)) 1 r5 (nI ml.length))) rfl ?_
      have hW := rpm_cd hW 0 (nI (cn en 4096))
      generalize gm_up f y (cMo 0 ad (nI (cn en 4096)) 1 r5 (nI ml.length)) = f at hW ⊢
      refine gj_aload_n C dX3_add_27 rfl ?_
      refine gj_get C dX3_add_28 hW.1.1 rfl inX3 0 (by decide) w_329 rfl ?_
      refine gj_if_eqT (tgt := 36) C dX3_add_31 (by decide) rfl ?_
      have hok : (0 ≤ wo ∧ wo < 16384) := (by have qc2 := bI_p1 c2; revert qc2; simp only [i_le, i_lt, i_eq, t_0, t_1, t_5, t_7, t_8, t_16383, t_16384, t_32768, t_1048576, vs, vl, vc, vn, ll, rF, rL, rMeet, rIn, rY, if_true, if_false, Bool.false_eq_true, ite_true, ite_false, reduceIte, wn, vr]; (try intros); omega)
      obtain ⟨i, hi, hlo⟩ := hex
      have loop : ∀ (d k : Nat), k + d = i → gj p l e (rmk 1 0 0) s m args below meth c D vwCl A 3 (MQ below (gk_Q (fun v u => ∃ b, v = some (.int b) ∧ ((∃ r9 i, (some r5) = some r9 ∧ (0 ≤ wo ∧ wo < 16384) ∧ lowE en i ∧ b = nI i ∧ RpM cI cZ u y 0 (some r5) (va_up en i (some (r9, wo))) ml) ∨ (((some r5) = none ∨ ¬ (0 ≤ wo ∧ wo < 16384)) ∧ RpM cI cZ u y 1 (some r5) en ml))) D A) args s (rmk 1 0 0).cells (rmk 1 0 0).slots A) f 0 0 38 [some (.ref y), some (.int wo), some (.int (nI k))] [] := by
        intro d
        induction d with
        | zero =>
          intro k hki
          have hki : i = k := by omega
          subst hki
          have g0 := rpm_no hW hi hlo.1
          refine gj_aload_n C dX3_add_38 rfl ?_
          refine gj_get C dX3_add_39 hW.1.1 rfl inX3 1 (by decide) w_330 rfl ?_
          refine gj_iload_n C dX3_add_42 rfl ?_
          refine gj_zaldN C 2 dX3_add_43 hW.1.2.1 rfl hi (by decide) ?_
          refine gj_st (st' := [.int 0]) (by rw [g0]) ?_
          refine gj_if_eqT (tgt := 53) C dX3_add_44 (by decide) rfl ?_
          refine gj_aload_n C dX3_add_53 rfl ?_
          refine gj_get C dX3_add_54 hW.1.1 rfl inX3 1 (by decide) w_330 rfl ?_
          refine gj_iload_n C dX3_add_57 rfl ?_
          refine gj_iconst (v := 1) C dX3_add_58 (by decide) ?_
          refine gj_zastN C 2 dX3_add_59 hW.1.2.1 rfl hi (by decide) ?_
          refine gj_f (f' := gm_up f (ad 0) (aZ cZ (upd (ga 0) i 1))) (by rw [vpn_1]) ?_
          have hei1 := va_up_self en i (some ((ga 1 i, ga 2 i, ga 3 i, ga 4 i, ga 5 i), ga 6 i))
          have hW := rpm_t1 hW hi
          generalize ((ga 1 i, ga 2 i, ga 3 i, ga 4 i, ga 5 i), ga 6 i) = e0 at hW hei1
          generalize gm_up f (ad 0) (aZ cZ (upd (ga 0) i 1)) = f at hW ⊢
          generalize va_up ga 0 (upd (ga 0) i 1) = ga at hW
          refine gj_aload_n C dX3_add_60 rfl ?_
          refine gj_get C dX3_add_61 hW.1.1 rfl inX3 2 (by decide) w_331 rfl ?_
          refine gj_iload_n C dX3_add_64 rfl ?_
          refine gj_aload_n C dX3_add_65 rfl ?_
          refine gj_get C dX3_add_66 hW.1.1 rfl inX3 10 (by decide) w_339 rfl ?_
          refine gj_iastN C 0 dX3_add_69 (hW.1.2.2 1 (by decide) (by decide)) rfl hi (by decide) ?_
          have hW := rpm_st hW hi hei1 1 (by decide) (by decide) r5.1
          have hei1 := va_up_self (va_up en i (some e0)) i (some (setk 1 r5.1 e0))
          generalize gm_up f (ad 1) (.inl (cI, 4096, .inl (upd (ga 1) i r5.1))) = f at hW ⊢
          generalize va_up ga 1 (upd (ga 1) i r5.1) = ga at hW
          refine gj_aload_n C dX3_add_70 rfl ?_
          refine gj_get C dX3_add_71 hW.1.1 rfl inX3 3 (by decide) w_332 rfl ?_
          refine gj_iload_n C dX3_add_74 rfl ?_
          refine gj_aload_n C dX3_add_75 rfl ?_
          refine gj_get C dX3_add_76 hW.1.1 rfl inX3 11 (by decide) w_340 rfl ?_
          refine gj_iastN C 0 dX3_add_79 (hW.1.2.2 2 (by decide) (by decide)) rfl hi (by decide) ?_
          have hW := rpm_st hW hi hei1 2 (by decide) (by decide) r5.2.1
          have hei1 := va_up_self (va_up (va_up en i (some e0)) i (some (setk 1 r5.1 e0))) i (some (setk 2 r5.2.1 (setk 1 r5.1 e0)))
          generalize gm_up f (ad 2) (.inl (cI, 4096, .inl (upd (ga 2) i r5.2.1))) = f at hW ⊢
          generalize va_up ga 2 (upd (ga 2) i r5.2.1) = ga at hW
          refine gj_aload_n C dX3_add_80 rfl ?_
          refine gj_get C dX3_add_81 hW.1.1 rfl inX3 4 (by decide) w_333 rfl ?_
          refine gj_iload_n C dX3_add_84 rfl ?_
          refine gj_aload_n C dX3_add_85 rfl ?_
          refine gj_get C dX3_add_86 hW.1.1 rfl inX3 12 (by decide) w_341 rfl ?_
          refine gj_iastN C 0 dX3_add_89 (hW.1.2.2 3 (by decide) (by decide)) rfl hi (by decide) ?_
          have hW := rpm_st hW hi hei1 3 (by decide) (by decide) r5.2.2.1
          have hei1 := va_up_self (va_up (va_up (va_up en i (some e0)) i (some (setk 1 r5.1 e0))) i (some (setk 2 r5.2.1 (setk 1 r5.1 e0)))) i (some (setk 3 r5.2.2.1 (setk 2 r5.2.1 (setk 1 r5.1 e0))))
          generalize gm_up f (ad 3) (.inl (cI, 4096, .inl (upd (ga 3) i r5.2.2.1))) = f at hW ⊢
          generalize va_up ga 3 (upd (ga 3) i r5.2.2.1) = ga at hW
          refine gj_aload_n C dX3_add_90 rfl ?_
          refine gj_get C dX3_add_91 hW.1.1 rfl inX3 5 (by decide) w_334 rfl ?_
          refine gj_iload_n C dX3_add_94 rfl ?_
          refine gj_aload_n C dX3_add_95 rfl ?_
          refine gj_get C dX3_add_96 hW.1.1 rfl inX3 13 (by decide) w_342 rfl ?_
          refine gj_iastN C 0 dX3_add_99 (hW.1.2.2 4 (by decide) (by decide)) rfl hi (by decide) ?_
          have hW := rpm_st hW hi hei1 4 (by decide) (by decide) r5.2.2.2.1
          have hei1 := va_up_self (va_up (va_up (va_up (va_up en i (some e0)) i (some (setk 1 r5.1 e0))) i (some (setk 2 r5.2.1 (setk 1 r5.1 e0)))) i (some (setk 3 r5.2.2.1 (setk 2 r5.2.1 (setk 1 r5.1 e0))))) i (some (setk 4 r5.2.2.2.1 (setk 3 r5.2.2.1 (setk 2 r5.2.1 (setk 1 r5.1 e0)))))
          generalize gm_up f (ad 4) (.inl (cI, 4096, .inl (upd (ga 4) i r5.2.2.2.1))) = f at hW ⊢
          generalize va_up ga 4 (upd (ga 4) i r5.2.2.2.1) = ga at hW
          refine gj_aload_n C dX3_add_100 rfl ?_
          refine gj_get C dX3_add_101 hW.1.1 rfl inX3 6 (by decide) w_335 rfl ?_
          refine gj_iload_n C dX3_add_104 rfl ?_
          refine gj_aload_n C dX3_add_105 rfl ?_
          refine gj_get C dX3_add_106 hW.1.1 rfl inX3 14 (by decide) w_343 rfl ?_
          refine gj_iastN C 0 dX3_add_109 (hW.1.2.2 5 (by decide) (by decide)) rfl hi (by decide) ?_
          have hW := rpm_st hW hi hei1 5 (by decide) (by decide) r5.2.2.2.2
          have hei1 := va_up_self (va_up (va_up (va_up (va_up (va_up en i (some e0)) i (some (setk 1 r5.1 e0))) i (some (setk 2 r5.2.1 (setk 1 r5.1 e0)))) i (some (setk 3 r5.2.2.1 (setk 2 r5.2.1 (setk 1 r5.1 e0))))) i (some (setk 4 r5.2.2.2.1 (setk 3 r5.2.2.1 (setk 2 r5.2.1 (setk 1 r5.1 e0)))))) i (some (setk 5 r5.2.2.2.2 (setk 4 r5.2.2.2.1 (setk 3 r5.2.2.1 (setk 2 r5.2.1 (setk 1 r5.1 e0))))))
          generalize gm_up f (ad 5) (.inl (cI, 4096, .inl (upd (ga 5) i r5.2.2.2.2))) = f at hW ⊢
          generalize va_up ga 5 (upd (ga 5) i r5.2.2.2.2) = ga at hW
          refine gj_aload_n C dX3_add_110 rfl ?_
          refine gj_get C dX3_add_111 hW.1.1 rfl inX3 7 (by decide) w_336 rfl ?_
          refine gj_iload_n C dX3_add_114 rfl ?_
          refine gj_iload_n C dX3_add_115 rfl ?_
          refine gj_iastN C 0 dX3_add_116 (hW.1.2.2 6 (by decide) (by decide)) rfl hi (by decide) ?_
          have hW := rpm_st hW hi hei1 6 (by decide) (by decide) wo
          have hei1 := va_up_self (va_up (va_up (va_up (va_up (va_up (va_up en i (some e0)) i (some (setk 1 r5.1 e0))) i (some (setk 2 r5.2.1 (setk 1 r5.1 e0)))) i (some (setk 3 r5.2.2.1 (setk 2 r5.2.1 (setk 1 r5.1 e0))))) i (some (setk 4 r5.2.2.2.1 (setk 3 r5.2.2.1 (setk 2 r5.2.1 (setk 1 r5.1 e0)))))) i (some (setk 5 r5.2.2.2.2 (setk 4 r5.2.2.2.1 (setk 3 r5.2.2.1 (setk 2 r5.2.1 (setk 1 r5.1 e0))))))) i (some (setk 6 wo (setk 5 r5.2.2.2.2 (setk 4 r5.2.2.2.1 (setk 3 r5.2.2.1 (setk 2 r5.2.1 (setk 1 r5.1 e0)))))))
          generalize gm_up f (ad 6) (.inl (cI, 4096, .inl (upd (ga 6) i wo))) = f at hW ⊢
          generalize va_up ga 6 (upd (ga 6) i wo) = ga at hW
          refine gj_aload_n C dX3_add_117 rfl ?_
          refine gj_dup C dX3_add_118 rfl ?_
          refine gj_get C dX3_add_119 hW.1.1 rfl inX3 8 (by decide) w_337 rfl ?_
          refine gj_iconst (v := 1) C dX3_add_122 (by decide) ?_
          refine gj_iadd C dX3_add_123 ?_
          refine gj_put C dX3_add_124 hW.1.1 rfl inX3 tyX3_ok nmX3 8 (by decide) w_337 rfl rfl rfl (Nat.le_of_ble_eq_true rfl) ?_
          refine gj_f (f' := gm_up f y (cMo 0 ad ((nI (cn en 4096)) + 1) 1 r5 (nI ml.length))) rfl ?_
          have hW := rpm_cd hW 0 ((nI (cn en 4096)) + 1)
          refine gj_iload_n C dX3_add_127 rfl ?_
          exact gj_iret C hr hlk dX3_add_128 (⟨_, rfl, Or.inl ⟨r5, i, rfl, hok, hlo, rfl, ⟨ad, ga, _, r5, by rw [cn_add hlo.1 4096 hi, ← nI_1]; rw [bx_uu, bx_uu, bx_uu, bx_uu, bx_uu, bx_uu] at hW; exact hW⟩⟩⟩)
        | succ d ih =>
          intro k hki
          have g0 : ga 0 k = 1 := by
            cases hek : en k with
            | none => exact absurd hek (hlo.2 k (by omega))
            | some ek => exact (rpm_at hW (by omega) hek).1
          refine gj_aload_n C dX3_add_38 rfl ?_
          refine gj_get C dX3_add_39 hW.1.1 rfl inX3 1 (by decide) w_330 rfl ?_
          refine gj_iload_n C dX3_add_42 rfl ?_
          refine gj_zaldN C 2 dX3_add_43 hW.1.2.1 rfl (by omega) (by decide) ?_
          refine gj_st (st' := [.int 1]) (by rw [g0]) ?_
          refine gj_if_eqF (tgt := 53) C dX3_add_44 (by decide) (by decide) ?_
          refine gj_iinc (v := (nI (k + 1))) (lw' := [some (.ref y), some (.int wo), some (.int (nI (k + 1)))]) C dX3_add_47 rfl (nI_1 k) (by decide) rfl rfl ?_
          refine gj_goto (tgt := 38) C dX3_add_50 (by decide) ?_
          exact ih (k + 1) (by omega)
      refine gj_iconst (v := 0) C dX3_add_36 (by decide) ?_
      refine gj_istore_n (lw' := [some (.ref y), some (.int wo), some (.int 0)]) C dX3_add_37 (by decide) rfl rfl ?_
      exact loop i 0 (by omega)
    · refine gj_iconst (v := 1) C dX3_add_19 (by decide) ?_
      refine gj_goto (tgt := 24) C dX3_add_20 (by decide) ?_
      refine gj_put C dX3_add_24 hW.1.1 rfl inX3 tyX3_ok nmX3 0 (by decide) w_329 rfl rfl rfl (Nat.le_of_ble_eq_true rfl) ?_
      refine gj_f (f' := gm_up f y (cMo 1 ad (nI (cn en 4096)) 1 r5 (nI ml.length))) rfl ?_
      have hW := rpm_cd hW 1 (nI (cn en 4096))
      generalize gm_up f y (cMo 1 ad (nI (cn en 4096)) 1 r5 (nI ml.length)) = f at hW ⊢
      refine gj_aload_n C dX3_add_27 rfl ?_
      refine gj_get C dX3_add_28 hW.1.1 rfl inX3 0 (by decide) w_329 rfl ?_
      refine gj_if_eqF (tgt := 36) C dX3_add_31 (by decide) (by decide) ?_
      refine gj_iconst (v := 0) C dX3_add_34 (by decide) ?_
      exact gj_iret C hr hlk dX3_add_35 (⟨_, rfl, Or.inr ⟨Or.inr (by have qc2 := bI_p0 c2; revert qc2; simp only [i_le, i_lt, i_eq, t_0, t_1, t_5, t_7, t_8, t_16383, t_16384, t_32768, t_1048576, vs, vl, vc, vn, ll, rF, rL, rMeet, rIn, rY, if_true, if_false, Bool.false_eq_true, ite_true, ite_false, reduceIte, wn, vr]; (try intros); omega), ⟨ad, ga, _, r5, hW⟩⟩⟩)
