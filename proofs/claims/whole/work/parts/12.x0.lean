/-! Area and Entry. By gen/m12.py. -/
set_option maxRecDepth 100000 in
set_option maxHeartbeats 4000000 in
theorem k_Area_init (l : Launch) (D : va_G) (tys : List (ClassId × FieldType)) (f : gm) (a : Nat) (r : Rc) (x0 x1 x2 x3 x4 : Int32) (h0 : f a = some (.inr (0, [.int x0, .int x1, .int x2, .int x3, .int x4]))) : gk l yX0_init (.code yX0_init cX0_init 6 (Option.none : Option Jvm.ClassFile.FieldType)) (rmk 0 0 0) D tys [.ref a, .int r.1, .int r.2.1, .int r.2.2.1, .int r.2.2.2.1, .int r.2.2.2.2] f (fun v u => v = none ∧ u = gm_up f a (cAr r)) := by
  refine gk_of [some (.ref a), some (.int r.1), some (.int r.2.1), some (.int r.2.2.1), some (.int r.2.2.2.1), some (.int r.2.2.2.2)] (by decide) rfl (Nat.le_of_ble_eq_true rfl) rfl ?_
  intro p e s m args below meth c A C hV hr hlk hnm
  refine gj_aload_n C dX0_init_0 rfl ?_
  refine gj_objInit C dX0_init_1 w_60 w_17 w_18 (Nat.le_of_ble_eq_true rfl) (Nat.le_of_ble_eq_true rfl) ?_
  refine gj_aload_n C dX0_init_4 rfl ?_
  refine gj_iload_n C dX0_init_5 rfl ?_
  refine gj_put C dX0_init_6 h0 rfl inX0 tyX0_ok nmX0 0 (by decide) w_61 rfl rfl rfl (Nat.le_of_ble_eq_true rfl) ?_
  refine gj_aload_n C dX0_init_9 rfl ?_
  refine gj_iload_n C dX0_init_10 rfl ?_
  refine gj_put C dX0_init_11 gm_up_self rfl inX0 tyX0_ok nmX0 1 (by decide) w_63 rfl rfl rfl (Nat.le_of_ble_eq_true rfl) ?_
  refine gj_aload_n C dX0_init_14 rfl ?_
  refine gj_iload_n C dX0_init_15 rfl ?_
  refine gj_put C dX0_init_16 gm_up_self rfl inX0 tyX0_ok nmX0 2 (by decide) w_65 rfl rfl rfl (Nat.le_of_ble_eq_true rfl) ?_
  refine gj_aload_n C dX0_init_19 rfl ?_
  refine gj_iload C dX0_init_20 rfl ?_
  refine gj_put C dX0_init_22 gm_up_self rfl inX0 tyX0_ok nmX0 3 (by decide) w_67 rfl rfl rfl (Nat.le_of_ble_eq_true rfl) ?_
  refine gj_aload_n C dX0_init_25 rfl ?_
  refine gj_iload C dX0_init_26 rfl ?_
  refine gj_put C dX0_init_28 gm_up_self rfl inX0 tyX0_ok nmX0 4 (by decide) w_69 rfl rfl rfl (Nat.le_of_ble_eq_true rfl) ?_
  exact gj_vret C hr hlk dX0_init_31 (⟨rfl, by simp only [gm_up_up] <;> rfl⟩)
set_option maxRecDepth 100000 in
set_option maxHeartbeats 4000000 in
theorem k_Entry_init (l : Launch) (D : va_G) (tys : List (ClassId × FieldType)) (f : gm) (a b : Nat) (wo x1 : Int32) (h0 : f a = some (.inr (1, [.null, .int x1]))) : gk l yX1_init (.code yX1_init cX1_init 3 (Option.none : Option Jvm.ClassFile.FieldType)) (rmk 0 0 0) D tys [.ref a, .ref b, .int wo] f (fun v u => v = none ∧ u = gm_up f a (cEn b wo)) := by
  refine gk_of [some (.ref a), some (.ref b), some (.int wo)] (by decide) rfl (Nat.le_of_ble_eq_true rfl) rfl ?_
  intro p e s m args below meth c A C hV hr hlk hnm
  refine gj_aload_n C dX1_init_0 rfl ?_
  refine gj_objInit C dX1_init_1 w_225 w_17 w_18 (Nat.le_of_ble_eq_true rfl) (Nat.le_of_ble_eq_true rfl) ?_
  refine gj_aload_n C dX1_init_4 rfl ?_
  refine gj_aload_n C dX1_init_5 rfl ?_
  refine gj_putF C dX1_init_6 h0 rfl inX1 tyX1_ok nmX1 0 (by decide) w_226 rfl hnm rfl rfl rfl (Nat.le_of_ble_eq_true rfl) ?_
  refine gj_aload_n C dX1_init_9 rfl ?_
  refine gj_iload_n C dX1_init_10 rfl ?_
  refine gj_putF C dX1_init_11 gm_up_self rfl inX1 tyX1_ok nmX1 1 (by decide) w_228 rfl hnm rfl rfl rfl (Nat.le_of_ble_eq_true rfl) ?_
  exact gj_vret C hr hlk dX1_init_14 (⟨rfl, by simp only [gm_up_up] <;> rfl⟩)
set_option maxRecDepth 100000 in
set_option maxHeartbeats 4000000 in
theorem k_Area_copy (l : Launch) (D : va_G) (tys : List (ClassId × FieldType)) (f : gm) (a : Nat) (r : Rc) (h0 : f a = some (cAr r)) : gk l yX0_copy (.code yX0_copy cX0_copy 1 (Option.some (Jvm.ClassFile.FieldType.object "RangeReaders$Area"))) (rmk 1 1 5) D tys [.ref a] f (fun v u => ∃ q, v = some (.ref q) ∧ f q = none ∧ u = gm_up f q (cAr r)) := by
  refine gk_of [some (.ref a)] (by decide) rfl (Nat.le_of_ble_eq_true rfl) rfl ?_
  intro p e s m args below meth c A C hV hr hlk hnm
  refine gj_new (ci := 0) (nc := 0) (ns := 0) C dX0_copy_0 rfl inX0 tyX0_ok w_220 w_56 w_3 dfX0 (by decide) (by decide) (fun q1 hq1 => ?_)
  refine gj_dup C dX0_copy_3 rfl ?_
  refine gj_aload_n C dX0_copy_4 rfl ?_
  refine gj_get C dX0_copy_5 (gm_up_of h0 hq1) rfl inX0 0 (by decide) w_61 rfl ?_
  refine gj_aload_n C dX0_copy_8 rfl ?_
  refine gj_get C dX0_copy_9 (gm_up_of h0 hq1) rfl inX0 1 (by decide) w_63 rfl ?_
  refine gj_aload_n C dX0_copy_12 rfl ?_
  refine gj_get C dX0_copy_13 (gm_up_of h0 hq1) rfl inX0 2 (by decide) w_65 rfl ?_
  refine gj_aload_n C dX0_copy_16 rfl ?_
  refine gj_get C dX0_copy_17 (gm_up_of h0 hq1) rfl inX0 3 (by decide) w_67 rfl ?_
  refine gj_aload_n C dX0_copy_20 rfl ?_
  refine gj_get C dX0_copy_21 (gm_up_of h0 hq1) rfl inX0 4 (by decide) w_69 rfl ?_
  refine gj_cI (As := [.int r.1, .int r.2.1, .int r.2.2.1, .int r.2.2.2.1, .int r.2.2.2.2]) (rest := [.ref q1]) (nc := 0) (ns := 0) C hV (k_Area_init l D tys (gm_up f q1 (.inr (0, [.int 0, .int 0, .int 0, .int 0, .int 0]))) q1 r 0 0 0 0 0 gm_up_self) dX0_copy_24 rfl w_59 rfl w_221 w_3 w_58 rfl hd_X0_init rfl ⟨Nat.le_of_ble_eq_true rfl, Nat.le_of_ble_eq_true rfl⟩ (Nat.le_of_ble_eq_true rfl) (by decide) (by decide) (fun v u hp2 => ?_)
  refine gj_rt (f := (gm_up f q1 (cAr r))) (st' := [.ref q1]) hp2.1 (hp2.2.trans gm_up_up) rfl ?_
  exact gj_aret C hr hlk dX0_copy_27 (Or.inr ⟨_, rfl⟩) (⟨q1, rfl, hq1, rfl⟩)
set_option maxRecDepth 100000 in
set_option maxHeartbeats 4000000 in
theorem k_Area_first (l : Launch) (D : va_G) (tys : List (ClassId × FieldType)) (f : gm) (a : Nat) (r : Rc) (cs : Bool) (h0 : f a = some (cAr r)) : gk l yX0_first (.code yX0_first cX0_first 2 (Option.some Jvm.ClassFile.FieldType.int)) (rmk 0 0 0) D tys [.ref a, .int (bI cs)] f (fun v u => v = some (.int (rF cs r)) ∧ u = f) := by
  refine gk_of [some (.ref a), some (.int (bI cs))] (by decide) rfl (Nat.le_of_ble_eq_true rfl) rfl ?_
  intro p e s m args below meth c A C hV hr hlk hnm
  cases cs
  · refine gj_iload_n C dX0_first_0 rfl ?_
    refine gj_if_eqT (tgt := 11) C dX0_first_1 (by decide) rfl ?_
    refine gj_aload_n C dX0_first_11 rfl ?_
    refine gj_get C dX0_first_12 h0 rfl inX0 1 (by decide) w_63 rfl ?_
    exact gj_iret C hr hlk dX0_first_15 (⟨rfl, rfl⟩)
  · refine gj_iload_n C dX0_first_0 rfl ?_
    refine gj_if_eqF (tgt := 11) C dX0_first_1 (by decide) (by decide) ?_
    refine gj_aload_n C dX0_first_4 rfl ?_
    refine gj_get C dX0_first_5 h0 rfl inX0 2 (by decide) w_65 rfl ?_
    refine gj_goto (tgt := 15) C dX0_first_8 (by decide) ?_
    exact gj_iret C hr hlk dX0_first_15 (⟨rfl, rfl⟩)
set_option maxRecDepth 100000 in
set_option maxHeartbeats 4000000 in
theorem k_Area_last (l : Launch) (D : va_G) (tys : List (ClassId × FieldType)) (f : gm) (a : Nat) (r : Rc) (cs : Bool) (h0 : f a = some (cAr r)) : gk l yX0_last (.code yX0_last cX0_last 2 (Option.some Jvm.ClassFile.FieldType.int)) (rmk 0 0 0) D tys [.ref a, .int (bI cs)] f (fun v u => v = some (.int (rL cs r)) ∧ u = f) := by
  refine gk_of [some (.ref a), some (.int (bI cs))] (by decide) rfl (Nat.le_of_ble_eq_true rfl) rfl ?_
  intro p e s m args below meth c A C hV hr hlk hnm
  cases cs
  · refine gj_iload_n C dX0_last_0 rfl ?_
    refine gj_if_eqT (tgt := 11) C dX0_last_1 (by decide) rfl ?_
    refine gj_aload_n C dX0_last_11 rfl ?_
    refine gj_get C dX0_last_12 h0 rfl inX0 3 (by decide) w_67 rfl ?_
    exact gj_iret C hr hlk dX0_last_15 (⟨rfl, rfl⟩)
  · refine gj_iload_n C dX0_last_0 rfl ?_
    refine gj_if_eqF (tgt := 11) C dX0_last_1 (by decide) (by decide) ?_
    refine gj_aload_n C dX0_last_4 rfl ?_
    refine gj_get C dX0_last_5 h0 rfl inX0 4 (by decide) w_69 rfl ?_
    refine gj_goto (tgt := 15) C dX0_last_8 (by decide) ?_
    exact gj_iret C hr hlk dX0_last_15 (⟨rfl, rfl⟩)
set_option maxRecDepth 100000 in
set_option maxHeartbeats 4000000 in
theorem k_Area_setLines (l : Launch) (D : va_G) (tys : List (ClassId × FieldType)) (f : gm) (a : Nat) (r : Rc) (cs : Bool) (x y : Int32) (h0 : f a = some (cAr r)) : gk l yX0_setLines (.code yX0_setLines cX0_setLines 4 (Option.none : Option Jvm.ClassFile.FieldType)) (rmk 0 0 0) D tys [.ref a, .int (bI cs), .int x, .int y] f (fun v u => v = none ∧ u = gm_up f a (cAr (rS cs x y r))) := by
  refine gk_of [some (.ref a), some (.int (bI cs)), some (.int x), some (.int y)] (by decide) rfl (Nat.le_of_ble_eq_true rfl) rfl ?_
  intro p e s m args below meth c A C hV hr hlk hnm
  cases cs
  · refine gj_iload_n C dX0_setLines_0 rfl ?_
    refine gj_if_eqT (tgt := 17) C dX0_setLines_1 (by decide) rfl ?_
    refine gj_aload_n C dX0_setLines_17 rfl ?_
    refine gj_iload_n C dX0_setLines_18 rfl ?_
    refine gj_put C dX0_setLines_19 h0 rfl inX0 tyX0_ok nmX0 1 (by decide) w_63 rfl rfl rfl (Nat.le_of_ble_eq_true rfl) ?_
    refine gj_aload_n C dX0_setLines_22 rfl ?_
    refine gj_iload_n C dX0_setLines_23 rfl ?_
    refine gj_put C dX0_setLines_24 gm_up_self rfl inX0 tyX0_ok nmX0 3 (by decide) w_67 rfl rfl rfl (Nat.le_of_ble_eq_true rfl) ?_
    exact gj_vret C hr hlk dX0_setLines_27 (⟨rfl, by simp only [gm_up_up] <;> rfl⟩)
  · refine gj_iload_n C dX0_setLines_0 rfl ?_
    refine gj_if_eqF (tgt := 17) C dX0_setLines_1 (by decide) (by decide) ?_
    refine gj_aload_n C dX0_setLines_4 rfl ?_
    refine gj_iload_n C dX0_setLines_5 rfl ?_
    refine gj_put C dX0_setLines_6 h0 rfl inX0 tyX0_ok nmX0 2 (by decide) w_65 rfl rfl rfl (Nat.le_of_ble_eq_true rfl) ?_
    refine gj_aload_n C dX0_setLines_9 rfl ?_
    refine gj_iload_n C dX0_setLines_10 rfl ?_
    refine gj_put C dX0_setLines_11 gm_up_self rfl inX0 tyX0_ok nmX0 4 (by decide) w_69 rfl rfl rfl (Nat.le_of_ble_eq_true rfl) ?_
    refine gj_goto (tgt := 27) C dX0_setLines_14 (by decide) ?_
    exact gj_vret C hr hlk dX0_setLines_27 (⟨rfl, by simp only [gm_up_up] <;> rfl⟩)
set_option maxRecDepth 100000 in
set_option maxHeartbeats 4000000 in
theorem k_Area_shift (l : Launch) (D : va_G) (tys : List (ClassId × FieldType)) (f : gm) (a : Nat) (r : Rc) (sh dr dc : Int32) (h0 : f a = some (cAr r)) : gk l yX0_shift (.code yX0_shift cX0_shift 4 (Option.none : Option Jvm.ClassFile.FieldType)) (rmk 0 0 0) D tys [.ref a, .int sh, .int dr, .int dc] f (fun v u => v = none ∧ u = gm_up f a (cAr (rM sh dr dc r))) := by
  refine gk_of [some (.ref a), some (.int sh), some (.int dr), some (.int dc)] (by decide) rfl (Nat.le_of_ble_eq_true rfl) rfl ?_
  intro p e s m args below meth c A C hV hr hlk hnm
  refine gj_aload_n C dX0_shift_0 rfl ?_
  refine gj_iload_n C dX0_shift_1 rfl ?_
  refine gj_put C dX0_shift_2 h0 rfl inX0 tyX0_ok nmX0 0 (by decide) w_61 rfl rfl rfl (Nat.le_of_ble_eq_true rfl) ?_
  refine gj_aload_n C dX0_shift_5 rfl ?_
  refine gj_dup C dX0_shift_6 rfl ?_
  refine gj_get C dX0_shift_7 gm_up_self rfl inX0 1 (by decide) w_63 rfl ?_
  refine gj_iload_n C dX0_shift_10 rfl ?_
  refine gj_iadd C dX0_shift_11 ?_
  refine gj_put C dX0_shift_12 gm_up_self rfl inX0 tyX0_ok nmX0 1 (by decide) w_63 rfl rfl rfl (Nat.le_of_ble_eq_true rfl) ?_
  refine gj_aload_n C dX0_shift_15 rfl ?_
  refine gj_dup C dX0_shift_16 rfl ?_
  refine gj_get C dX0_shift_17 gm_up_self rfl inX0 3 (by decide) w_67 rfl ?_
  refine gj_iload_n C dX0_shift_20 rfl ?_
  refine gj_iadd C dX0_shift_21 ?_
  refine gj_put C dX0_shift_22 gm_up_self rfl inX0 tyX0_ok nmX0 3 (by decide) w_67 rfl rfl rfl (Nat.le_of_ble_eq_true rfl) ?_
  refine gj_aload_n C dX0_shift_25 rfl ?_
  refine gj_dup C dX0_shift_26 rfl ?_
  refine gj_get C dX0_shift_27 gm_up_self rfl inX0 2 (by decide) w_65 rfl ?_
  refine gj_iload_n C dX0_shift_30 rfl ?_
  refine gj_iadd C dX0_shift_31 ?_
  refine gj_put C dX0_shift_32 gm_up_self rfl inX0 tyX0_ok nmX0 2 (by decide) w_65 rfl rfl rfl (Nat.le_of_ble_eq_true rfl) ?_
  refine gj_aload_n C dX0_shift_35 rfl ?_
  refine gj_dup C dX0_shift_36 rfl ?_
  refine gj_get C dX0_shift_37 gm_up_self rfl inX0 4 (by decide) w_69 rfl ?_
  refine gj_iload_n C dX0_shift_40 rfl ?_
  refine gj_iadd C dX0_shift_41 ?_
  refine gj_put C dX0_shift_42 gm_up_self rfl inX0 tyX0_ok nmX0 4 (by decide) w_69 rfl rfl rfl (Nat.le_of_ble_eq_true rfl) ?_
  exact gj_vret C hr hlk dX0_shift_45 (⟨rfl, by simp only [gm_up_up] <;> rfl⟩)
set_option maxRecDepth 100000 in
set_option maxHeartbeats 4000000 in
theorem k_Area_meets (l : Launch) (D : va_G) (tys : List (ClassId × FieldType)) (f : gm) (a b : Nat) (r r2 : Rc) (h0 : f a = some (cAr r)) (h1 : f b = some (cAr r2)) : gk l yX0_meets (.code yX0_meets cX0_meets 2 (Option.some Jvm.ClassFile.FieldType.boolean)) (rmk 0 0 0) D tys [.ref a, .ref b] f (fun v u => v = some (.int (bI (decide (rMeet r r2)))) ∧ u = f) := by
  refine gk_of [some (.ref a), some (.ref b)] (by decide) rfl (Nat.le_of_ble_eq_true rfl) rfl ?_
  intro p e s m args below meth c A C hV hr hlk hnm
  refine gj_aload_n C dX0_meets_0 rfl ?_
  refine gj_get C dX0_meets_1 h0 rfl inX0 0 (by decide) w_61 rfl ?_
  refine gj_aload_n C dX0_meets_4 rfl ?_
  refine gj_get C dX0_meets_5 h1 rfl inX0 0 (by decide) w_61 rfl ?_
  refine gj_icmp_ne (tgt := 59) C dX0_meets_8 (by decide) (fun c1 => ?_) (fun c1 => ?_)
  · refine gj_iconst (v := 0) C dX0_meets_59 (by decide) ?_
    exact gj_zret C hr hlk dX0_meets_60 nz_0 (⟨congrArg (fun z => some (Value.int z)) (bI_f (by revert c1; simp only [i_le, i_lt, i_eq, t_0, t_1, t_5, t_7, t_8, t_16383, t_16384, t_32768, t_1048576, vs, vl, vc, vn, ll, rF, rL, rMeet, rIn, rY, if_true, if_false, Bool.false_eq_true, ite_true, ite_false, reduceIte]; (try intros); omega)).symm, rfl⟩)
  · refine gj_aload_n C dX0_meets_11 rfl ?_
    refine gj_get C dX0_meets_12 h0 rfl inX0 1 (by decide) w_63 rfl ?_
    refine gj_aload_n C dX0_meets_15 rfl ?_
    refine gj_get C dX0_meets_16 h1 rfl inX0 3 (by decide) w_67 rfl ?_
    refine gj_icmp_gt (tgt := 59) C dX0_meets_19 (by decide) (fun c2 => ?_) (fun c2 => ?_)
    · refine gj_iconst (v := 0) C dX0_meets_59 (by decide) ?_
      exact gj_zret C hr hlk dX0_meets_60 nz_0 (⟨congrArg (fun z => some (Value.int z)) (bI_f (by revert c1 c2; simp only [i_le, i_lt, i_eq, t_0, t_1, t_5, t_7, t_8, t_16383, t_16384, t_32768, t_1048576, vs, vl, vc, vn, ll, rF, rL, rMeet, rIn, rY, if_true, if_false, Bool.false_eq_true, ite_true, ite_false, reduceIte]; (try intros); omega)).symm, rfl⟩)
    · refine gj_aload_n C dX0_meets_22 rfl ?_
      refine gj_get C dX0_meets_23 h1 rfl inX0 1 (by decide) w_63 rfl ?_
      refine gj_aload_n C dX0_meets_26 rfl ?_
      refine gj_get C dX0_meets_27 h0 rfl inX0 3 (by decide) w_67 rfl ?_
      refine gj_icmp_gt (tgt := 59) C dX0_meets_30 (by decide) (fun c3 => ?_) (fun c3 => ?_)
      · refine gj_iconst (v := 0) C dX0_meets_59 (by decide) ?_
        exact gj_zret C hr hlk dX0_meets_60 nz_0 (⟨congrArg (fun z => some (Value.int z)) (bI_f (by revert c1 c2 c3; simp only [i_le, i_lt, i_eq, t_0, t_1, t_5, t_7, t_8, t_16383, t_16384, t_32768, t_1048576, vs, vl, vc, vn, ll, rF, rL, rMeet, rIn, rY, if_true, if_false, Bool.false_eq_true, ite_true, ite_false, reduceIte]; (try intros); omega)).symm, rfl⟩)
      · refine gj_aload_n C dX0_meets_33 rfl ?_
        refine gj_get C dX0_meets_34 h0 rfl inX0 2 (by decide) w_65 rfl ?_
        refine gj_aload_n C dX0_meets_37 rfl ?_
        refine gj_get C dX0_meets_38 h1 rfl inX0 4 (by decide) w_69 rfl ?_
        refine gj_icmp_gt (tgt := 59) C dX0_meets_41 (by decide) (fun c4 => ?_) (fun c4 => ?_)
        · refine gj_iconst (v := 0) C dX0_meets_59 (by decide) ?_
          exact gj_zret C hr hlk dX0_meets_60 nz_0 (⟨congrArg (fun z => some (Value.int z)) (bI_f (by revert c1 c2 c3 c4; simp only [i_le, i_lt, i_eq, t_0, t_1, t_5, t_7, t_8, t_16383, t_16384, t_32768, t_1048576, vs, vl, vc, vn, ll, rF, rL, rMeet, rIn, rY, if_true, if_false, Bool.false_eq_true, ite_true, ite_false, reduceIte]; (try intros); omega)).symm, rfl⟩)
        · refine gj_aload_n C dX0_meets_44 rfl ?_
          refine gj_get C dX0_meets_45 h1 rfl inX0 2 (by decide) w_65 rfl ?_
          refine gj_aload_n C dX0_meets_48 rfl ?_
          refine gj_get C dX0_meets_49 h0 rfl inX0 4 (by decide) w_69 rfl ?_
          refine gj_icmp_gt (tgt := 59) C dX0_meets_52 (by decide) (fun c5 => ?_) (fun c5 => ?_)
          · refine gj_iconst (v := 0) C dX0_meets_59 (by decide) ?_
            exact gj_zret C hr hlk dX0_meets_60 nz_0 (⟨congrArg (fun z => some (Value.int z)) (bI_f (by revert c1 c2 c3 c4 c5; simp only [i_le, i_lt, i_eq, t_0, t_1, t_5, t_7, t_8, t_16383, t_16384, t_32768, t_1048576, vs, vl, vc, vn, ll, rF, rL, rMeet, rIn, rY, if_true, if_false, Bool.false_eq_true, ite_true, ite_false, reduceIte]; (try intros); omega)).symm, rfl⟩)
          · refine gj_iconst (v := 1) C dX0_meets_55 (by decide) ?_
            refine gj_goto (tgt := 60) C dX0_meets_56 (by decide) ?_
            exact gj_zret C hr hlk dX0_meets_60 nz_1 (⟨congrArg (fun z => some (Value.int z)) (bI_t (by revert c1 c2 c3 c4 c5; simp only [i_le, i_lt, i_eq, t_0, t_1, t_5, t_7, t_8, t_16383, t_16384, t_32768, t_1048576, vs, vl, vc, vn, ll, rF, rL, rMeet, rIn, rY, if_true, if_false, Bool.false_eq_true, ite_true, ite_false, reduceIte]; (try intros); omega)).symm, rfl⟩)
set_option maxRecDepth 100000 in
set_option maxHeartbeats 4000000 in
theorem k_Area_liesIn (l : Launch) (D : va_G) (tys : List (ClassId × FieldType)) (f : gm) (a b : Nat) (r r2 : Rc) (h0 : f a = some (cAr r)) (h1 : f b = some (cAr r2)) : gk l yX0_liesIn (.code yX0_liesIn cX0_liesIn 2 (Option.some Jvm.ClassFile.FieldType.boolean)) (rmk 0 0 0) D tys [.ref a, .ref b] f (fun v u => v = some (.int (bI (decide (rIn r r2)))) ∧ u = f) := by
  refine gk_of [some (.ref a), some (.ref b)] (by decide) rfl (Nat.le_of_ble_eq_true rfl) rfl ?_
  intro p e s m args below meth c A C hV hr hlk hnm
  refine gj_aload_n C dX0_liesIn_0 rfl ?_
  refine gj_get C dX0_liesIn_1 h0 rfl inX0 0 (by decide) w_61 rfl ?_
  refine gj_aload_n C dX0_liesIn_4 rfl ?_
  refine gj_get C dX0_liesIn_5 h1 rfl inX0 0 (by decide) w_61 rfl ?_
  refine gj_icmp_ne (tgt := 59) C dX0_liesIn_8 (by decide) (fun c1 => ?_) (fun c1 => ?_)
  · refine gj_iconst (v := 0) C dX0_liesIn_59 (by decide) ?_
    exact gj_zret C hr hlk dX0_liesIn_60 nz_0 (⟨congrArg (fun z => some (Value.int z)) (bI_f (by revert c1; simp only [i_le, i_lt, i_eq, t_0, t_1, t_5, t_7, t_8, t_16383, t_16384, t_32768, t_1048576, vs, vl, vc, vn, ll, rF, rL, rMeet, rIn, rY, if_true, if_false, Bool.false_eq_true, ite_true, ite_false, reduceIte]; (try intros); omega)).symm, rfl⟩)
  · refine gj_aload_n C dX0_liesIn_11 rfl ?_
    refine gj_get C dX0_liesIn_12 h1 rfl inX0 1 (by decide) w_63 rfl ?_
    refine gj_aload_n C dX0_liesIn_15 rfl ?_
    refine gj_get C dX0_liesIn_16 h0 rfl inX0 1 (by decide) w_63 rfl ?_
    refine gj_icmp_gt (tgt := 59) C dX0_liesIn_19 (by decide) (fun c2 => ?_) (fun c2 => ?_)
    · refine gj_iconst (v := 0) C dX0_liesIn_59 (by decide) ?_
      exact gj_zret C hr hlk dX0_liesIn_60 nz_0 (⟨congrArg (fun z => some (Value.int z)) (bI_f (by revert c1 c2; simp only [i_le, i_lt, i_eq, t_0, t_1, t_5, t_7, t_8, t_16383, t_16384, t_32768, t_1048576, vs, vl, vc, vn, ll, rF, rL, rMeet, rIn, rY, if_true, if_false, Bool.false_eq_true, ite_true, ite_false, reduceIte]; (try intros); omega)).symm, rfl⟩)
    · refine gj_aload_n C dX0_liesIn_22 rfl ?_
      refine gj_get C dX0_liesIn_23 h0 rfl inX0 3 (by decide) w_67 rfl ?_
      refine gj_aload_n C dX0_liesIn_26 rfl ?_
      refine gj_get C dX0_liesIn_27 h1 rfl inX0 3 (by decide) w_67 rfl ?_
      refine gj_icmp_gt (tgt := 59) C dX0_liesIn_30 (by decide) (fun c3 => ?_) (fun c3 => ?_)
      · refine gj_iconst (v := 0) C dX0_liesIn_59 (by decide) ?_
        exact gj_zret C hr hlk dX0_liesIn_60 nz_0 (⟨congrArg (fun z => some (Value.int z)) (bI_f (by revert c1 c2 c3; simp only [i_le, i_lt, i_eq, t_0, t_1, t_5, t_7, t_8, t_16383, t_16384, t_32768, t_1048576, vs, vl, vc, vn, ll, rF, rL, rMeet, rIn, rY, if_true, if_false, Bool.false_eq_true, ite_true, ite_false, reduceIte]; (try intros); omega)).symm, rfl⟩)
      · refine gj_aload_n C dX0_liesIn_33 rfl ?_
        refine gj_get C dX0_liesIn_34 h1 rfl inX0 2 (by decide) w_65 rfl ?_
        refine gj_aload_n C dX0_liesIn_37 rfl ?_
        refine gj_get C dX0_liesIn_38 h0 rfl inX0 2 (by decide) w_65 rfl ?_
        refine gj_icmp_gt (tgt := 59) C dX0_liesIn_41 (by decide) (fun c4 => ?_) (fun c4 => ?_)
        · refine gj_iconst (v := 0) C dX0_liesIn_59 (by decide) ?_
          exact gj_zret C hr hlk dX0_liesIn_60 nz_0 (⟨congrArg (fun z => some (Value.int z)) (bI_f (by revert c1 c2 c3 c4; simp only [i_le, i_lt, i_eq, t_0, t_1, t_5, t_7, t_8, t_16383, t_16384, t_32768, t_1048576, vs, vl, vc, vn, ll, rF, rL, rMeet, rIn, rY, if_true, if_false, Bool.false_eq_true, ite_true, ite_false, reduceIte]; (try intros); omega)).symm, rfl⟩)
        · refine gj_aload_n C dX0_liesIn_44 rfl ?_
          refine gj_get C dX0_liesIn_45 h0 rfl inX0 4 (by decide) w_69 rfl ?_
          refine gj_aload_n C dX0_liesIn_48 rfl ?_
          refine gj_get C dX0_liesIn_49 h1 rfl inX0 4 (by decide) w_69 rfl ?_
          refine gj_icmp_gt (tgt := 59) C dX0_liesIn_52 (by decide) (fun c5 => ?_) (fun c5 => ?_)
          · refine gj_iconst (v := 0) C dX0_liesIn_59 (by decide) ?_
            exact gj_zret C hr hlk dX0_liesIn_60 nz_0 (⟨congrArg (fun z => some (Value.int z)) (bI_f (by revert c1 c2 c3 c4 c5; simp only [i_le, i_lt, i_eq, t_0, t_1, t_5, t_7, t_8, t_16383, t_16384, t_32768, t_1048576, vs, vl, vc, vn, ll, rF, rL, rMeet, rIn, rY, if_true, if_false, Bool.false_eq_true, ite_true, ite_false, reduceIte]; (try intros); omega)).symm, rfl⟩)
          · refine gj_iconst (v := 1) C dX0_liesIn_55 (by decide) ?_
            refine gj_goto (tgt := 60) C dX0_liesIn_56 (by decide) ?_
            exact gj_zret C hr hlk dX0_liesIn_60 nz_1 (⟨congrArg (fun z => some (Value.int z)) (bI_t (by revert c1 c2 c3 c4 c5; simp only [i_le, i_lt, i_eq, t_0, t_1, t_5, t_7, t_8, t_16383, t_16384, t_32768, t_1048576, vs, vl, vc, vn, ll, rF, rL, rMeet, rIn, rY, if_true, if_false, Bool.false_eq_true, ite_true, ite_false, reduceIte]; (try intros); omega)).symm, rfl⟩)
set_option maxRecDepth 100000 in
set_option maxHeartbeats 4000000 in
theorem k_Area_yieldsTo (l : Launch) (D : va_G) (tys : List (ClassId × FieldType)) (f : gm) (a : Nat) (r : Rc) (sh : Int32) (cs : Bool) (h0 : f a = some (cAr r)) : gk l yX0_yieldsTo (.code yX0_yieldsTo cX0_yieldsTo 4 (Option.some Jvm.ClassFile.FieldType.boolean)) (rmk 1 0 0) D tys [.ref a, .int sh, .int (bI cs)] f (fun v u => v = some (.int (bI (decide (rY sh cs r)))) ∧ u = f) := by
  refine gk_of [some (.ref a), some (.int sh), some (.int (bI cs)), none] (by decide) rfl (Nat.le_of_ble_eq_true rfl) rfl ?_
  intro p e s m args below meth c A C hV hr hlk hnm
  refine gj_aload_n C dX0_yieldsTo_0 rfl ?_
  refine gj_iload_n C dX0_yieldsTo_1 rfl ?_
  refine gj_cV (As := [.int (bI cs)]) (rest := []) (nc := 0) (ns := 0) C hV (k_Area_first l D tys f a r cs h0) dX0_yieldsTo_2 rfl w_276 rfl w_273 w_3 w_275 ws_9 hd_X0_first rfl h0 rfl ⟨Nat.le_of_ble_eq_true rfl, Nat.le_of_ble_eq_true rfl⟩ (Nat.le_of_ble_eq_true rfl) (by decide) (by decide) (fun v u hp1 => ?_)
  refine gj_rt (st' := [.int (rF cs r)]) hp1.1 hp1.2 rfl ?_
  refine gj_iconst (v := 1) C dX0_yieldsTo_5 (by decide) ?_
  refine gj_icmp_ne (tgt := 25) C dX0_yieldsTo_6 (by decide) (fun c2 => ?_) (fun c2 => ?_)
  · refine gj_iconst (v := 0) C dX0_yieldsTo_25 (by decide) ?_
    refine gj_istore_n (lw' := [some (.ref a), some (.int sh), some (.int (bI cs)), some (.int 0)]) C dX0_yieldsTo_26 (by decide) rfl rfl ?_
    refine gj_aload_n C dX0_yieldsTo_27 rfl ?_
    refine gj_get C dX0_yieldsTo_28 h0 rfl inX0 0 (by decide) w_61 rfl ?_
    refine gj_iload_n C dX0_yieldsTo_31 rfl ?_
    refine gj_icmp_ne (tgt := 43) C dX0_yieldsTo_32 (by decide) (fun c3 => ?_) (fun c3 => ?_)
    · refine gj_iconst (v := 0) C dX0_yieldsTo_43 (by decide) ?_
      exact gj_zret C hr hlk dX0_yieldsTo_44 nz_0 (⟨congrArg (fun z => some (Value.int z)) (bI_f (by simp only [rY]; revert c2 c3; simp only [i_eq, t_1]; (try intros); omega)).symm, rfl⟩)
    · refine gj_iload_n C dX0_yieldsTo_35 rfl ?_
      refine gj_if_neF (tgt := 43) C dX0_yieldsTo_36 (by decide) rfl ?_
      refine gj_iconst (v := 1) C dX0_yieldsTo_39 (by decide) ?_
      refine gj_goto (tgt := 44) C dX0_yieldsTo_40 (by decide) ?_
      exact gj_zret C hr hlk dX0_yieldsTo_44 nz_1 (⟨congrArg (fun z => some (Value.int z)) (bI_t (by simp only [rY]; revert c2 c3; simp only [i_eq, t_1]; (try intros); omega)).symm, rfl⟩)
  · refine gj_aload_n C dX0_yieldsTo_9 rfl ?_
    refine gj_iload_n C dX0_yieldsTo_10 rfl ?_
    refine gj_cV (As := [.int (bI cs)]) (rest := []) (nc := 0) (ns := 0) C hV (k_Area_last l D tys f a r cs h0) dX0_yieldsTo_11 rfl w_280 rfl w_277 w_3 w_279 ws_10 hd_X0_last rfl h0 rfl ⟨Nat.le_of_ble_eq_true rfl, Nat.le_of_ble_eq_true rfl⟩ (Nat.le_of_ble_eq_true rfl) (by decide) (by decide) (fun v u hp4 => ?_)
    refine gj_rt (st' := [.int (rL cs r)]) hp4.1 hp4.2 rfl ?_
    refine gj_iload_n C dX0_yieldsTo_14 rfl ?_
    refine gj_cSN (As := [.int (bI cs)]) (rest := [.int (rL cs r)]) (nc := 0) (ns := 0) C hV (k_lastLine l D tys f cs) dX0_yieldsTo_15 rfl w_53 rfl nw_12 w_1 w_52 hd_X2_lastLine rfl ⟨Nat.le_of_ble_eq_true rfl, Nat.le_of_ble_eq_true rfl⟩ (Nat.le_of_ble_eq_true rfl) (by decide) (by decide) (fun v u hp5 => ?_)
    refine gj_rt (st' := [.int (ll cs), .int (rL cs r)]) hp5.1 hp5.2 rfl ?_
    refine gj_icmp_ne (tgt := 25) C dX0_yieldsTo_18 (by decide) (fun c6 => ?_) (fun c6 => ?_)
    · refine gj_iconst (v := 0) C dX0_yieldsTo_25 (by decide) ?_
      refine gj_istore_n (lw' := [some (.ref a), some (.int sh), some (.int (bI cs)), some (.int 0)]) C dX0_yieldsTo_26 (by decide) rfl rfl ?_
      refine gj_aload_n C dX0_yieldsTo_27 rfl ?_
      refine gj_get C dX0_yieldsTo_28 h0 rfl inX0 0 (by decide) w_61 rfl ?_
      refine gj_iload_n C dX0_yieldsTo_31 rfl ?_
      refine gj_icmp_ne (tgt := 43) C dX0_yieldsTo_32 (by decide) (fun c7 => ?_) (fun c7 => ?_)
      · refine gj_iconst (v := 0) C dX0_yieldsTo_43 (by decide) ?_
        exact gj_zret C hr hlk dX0_yieldsTo_44 nz_0 (⟨congrArg (fun z => some (Value.int z)) (bI_f (by simp only [rY]; revert c2 c6 c7; simp only [i_eq, t_1]; (try intros); omega)).symm, rfl⟩)
      · refine gj_iload_n C dX0_yieldsTo_35 rfl ?_
        refine gj_if_neF (tgt := 43) C dX0_yieldsTo_36 (by decide) rfl ?_
        refine gj_iconst (v := 1) C dX0_yieldsTo_39 (by decide) ?_
        refine gj_goto (tgt := 44) C dX0_yieldsTo_40 (by decide) ?_
        exact gj_zret C hr hlk dX0_yieldsTo_44 nz_1 (⟨congrArg (fun z => some (Value.int z)) (bI_t (by simp only [rY]; revert c2 c6 c7; simp only [i_eq, t_1]; (try intros); omega)).symm, rfl⟩)
    · refine gj_iconst (v := 1) C dX0_yieldsTo_21 (by decide) ?_
      refine gj_goto (tgt := 26) C dX0_yieldsTo_22 (by decide) ?_
      refine gj_istore_n (lw' := [some (.ref a), some (.int sh), some (.int (bI cs)), some (.int 1)]) C dX0_yieldsTo_26 (by decide) rfl rfl ?_
      refine gj_aload_n C dX0_yieldsTo_27 rfl ?_
      refine gj_get C dX0_yieldsTo_28 h0 rfl inX0 0 (by decide) w_61 rfl ?_
      refine gj_iload_n C dX0_yieldsTo_31 rfl ?_
      refine gj_icmp_ne (tgt := 43) C dX0_yieldsTo_32 (by decide) (fun c8 => ?_) (fun c8 => ?_)
      · refine gj_iconst (v := 0) C dX0_yieldsTo_43 (by decide) ?_
        exact gj_zret C hr hlk dX0_yieldsTo_44 nz_0 (⟨congrArg (fun z => some (Value.int z)) (bI_f (by simp only [rY]; revert c2 c6 c8; simp only [i_eq, t_1]; (try intros); omega)).symm, rfl⟩)
      · refine gj_iload_n C dX0_yieldsTo_35 rfl ?_
        refine gj_if_neT (tgt := 43) C dX0_yieldsTo_36 (by decide) (by decide) ?_
        refine gj_iconst (v := 0) C dX0_yieldsTo_43 (by decide) ?_
        exact gj_zret C hr hlk dX0_yieldsTo_44 nz_0 (⟨congrArg (fun z => some (Value.int z)) (bI_f (by simp only [rY]; revert c2 c6 c8; simp only [i_eq, t_1]; (try intros); omega)).symm, rfl⟩)
