/-! RangeReaders: its static methods; Area: all of it. By gen/m11.py. -/
set_option maxRecDepth 100000 in
set_option maxHeartbeats 4000000 in
theorem k_isSheet (l : Launch) (D : va_G) (tys : List (ClassId × FieldType)) (f : gm) (sh : Int32) : gk l yX2_isSheet (.code yX2_isSheet cX2_isSheet 1 (Option.some Jvm.ClassFile.FieldType.boolean)) (rmk 0 0 0) D tys [.int sh] f (fun v u => v = some (.int (bI (decide (vs sh)))) ∧ u = f) := by
  refine gk_of [some (.int sh)] (by decide) rfl (Nat.le_of_ble_eq_true rfl) rfl ?_
  intro p e s m args below meth c A C hV hr hlk hnm
  refine gj_iload_n C dX2_isSheet_0 rfl ?_
  refine gj_if_lt (tgt := 14) C dX2_isSheet_1 (by decide) (fun c1 => ?_) (fun c1 => ?_)
  · refine gj_iconst (v := 0) C dX2_isSheet_14 (by decide) ?_
    exact gj_zret C hr hlk dX2_isSheet_15 nz_0 (⟨congrArg (fun z => some (Value.int z)) (bI_f (by revert c1; simp only [i_le, i_lt, i_eq, t_0, t_1, t_5, t_7, t_8, t_16383, t_16384, t_32768, t_1048576, vs, vl, vc, vn, ll, rF, rL, rMeet, rIn, rY, if_true, if_false, Bool.false_eq_true, ite_true, ite_false, reduceIte]; (try intros); omega)).symm, rfl⟩)
  · refine gj_iload_n C dX2_isSheet_4 rfl ?_
    refine gj_bipush (v := 8) C dX2_isSheet_5 (by decide) ?_
    refine gj_icmp_ge (tgt := 14) C dX2_isSheet_7 (by decide) (fun c2 => ?_) (fun c2 => ?_)
    · refine gj_iconst (v := 0) C dX2_isSheet_14 (by decide) ?_
      exact gj_zret C hr hlk dX2_isSheet_15 nz_0 (⟨congrArg (fun z => some (Value.int z)) (bI_f (by revert c1 c2; simp only [i_le, i_lt, i_eq, t_0, t_1, t_5, t_7, t_8, t_16383, t_16384, t_32768, t_1048576, vs, vl, vc, vn, ll, rF, rL, rMeet, rIn, rY, if_true, if_false, Bool.false_eq_true, ite_true, ite_false, reduceIte]; (try intros); omega)).symm, rfl⟩)
    · refine gj_iconst (v := 1) C dX2_isSheet_10 (by decide) ?_
      refine gj_goto (tgt := 15) C dX2_isSheet_11 (by decide) ?_
      exact gj_zret C hr hlk dX2_isSheet_15 nz_1 (⟨congrArg (fun z => some (Value.int z)) (bI_t (by revert c1 c2; simp only [i_le, i_lt, i_eq, t_0, t_1, t_5, t_7, t_8, t_16383, t_16384, t_32768, t_1048576, vs, vl, vc, vn, ll, rF, rL, rMeet, rIn, rY, if_true, if_false, Bool.false_eq_true, ite_true, ite_false, reduceIte]; (try intros); omega)).symm, rfl⟩)
set_option maxRecDepth 100000 in
set_option maxHeartbeats 4000000 in
theorem k_lastLine (l : Launch) (D : va_G) (tys : List (ClassId × FieldType)) (f : gm) (cs : Bool) : gk l yX2_lastLine (.code yX2_lastLine cX2_lastLine 1 (Option.some Jvm.ClassFile.FieldType.int)) (rmk 0 0 0) D tys [.int (bI cs)] f (fun v u => v = some (.int (ll cs)) ∧ u = f) := by
  refine gk_of [some (.int (bI cs))] (by decide) rfl (Nat.le_of_ble_eq_true rfl) rfl ?_
  intro p e s m args below meth c A C hV hr hlk hnm
  cases cs
  · refine gj_iload_n C dX2_lastLine_0 rfl ?_
    refine gj_if_eqT (tgt := 10) C dX2_lastLine_1 (by decide) rfl ?_
    refine gj_ldc (v := 1048576) C dX2_lastLine_10 w_54 ?_
    exact gj_iret C hr hlk dX2_lastLine_12 (⟨rfl, rfl⟩)
  · refine gj_iload_n C dX2_lastLine_0 rfl ?_
    refine gj_if_eqF (tgt := 10) C dX2_lastLine_1 (by decide) (by decide) ?_
    refine gj_sipush (v := 16384) C dX2_lastLine_4 (by decide) ?_
    refine gj_goto (tgt := 12) C dX2_lastLine_7 (by decide) ?_
    exact gj_iret C hr hlk dX2_lastLine_12 (⟨rfl, rfl⟩)
set_option maxRecDepth 100000 in
set_option maxHeartbeats 4000000 in
theorem k_isLine (l : Launch) (D : va_G) (tys : List (ClassId × FieldType)) (f : gm) (cs : Bool) (x : Int32) : gk l yX2_isLine (.code yX2_isLine cX2_isLine 2 (Option.some Jvm.ClassFile.FieldType.boolean)) (rmk 1 0 0) D tys [.int (bI cs), .int x] f (fun v u => v = some (.int (bI (decide (vl cs x)))) ∧ u = f) := by
  refine gk_of [some (.int (bI cs)), some (.int x)] (by decide) rfl (Nat.le_of_ble_eq_true rfl) rfl ?_
  intro p e s m args below meth c A C hV hr hlk hnm
  refine gj_iload_n C dX2_isLine_0 rfl ?_
  refine gj_iconst (v := 1) C dX2_isLine_1 (by decide) ?_
  refine gj_icmp_lt (tgt := 17) C dX2_isLine_2 (by decide) (fun c1 => ?_) (fun c1 => ?_)
  · refine gj_iconst (v := 0) C dX2_isLine_17 (by decide) ?_
    exact gj_zret C hr hlk dX2_isLine_18 nz_0 (⟨congrArg (fun z => some (Value.int z)) (bI_f (by revert c1; simp only [i_le, i_lt, i_eq, t_0, t_1, t_5, t_7, t_8, t_16383, t_16384, t_32768, t_1048576, vs, vl, vc, vn, ll, rF, rL, rMeet, rIn, rY, if_true, if_false, Bool.false_eq_true, ite_true, ite_false, reduceIte]; (try intros); omega)).symm, rfl⟩)
  · refine gj_iload_n C dX2_isLine_5 rfl ?_
    refine gj_iload_n C dX2_isLine_6 rfl ?_
    refine gj_cS (As := [.int (bI cs)]) (rest := [.int x]) (nc := 0) (ns := 0) C hV (k_lastLine l D tys f cs) dX2_isLine_7 rfl w_53 rfl w_51 w_1 w_52 hd_X2_lastLine rfl ⟨Nat.le_of_ble_eq_true rfl, Nat.le_of_ble_eq_true rfl⟩ (Nat.le_of_ble_eq_true rfl) (by decide) (by decide) (fun v u hp2 => ?_)
    refine gj_rt (st' := [.int (ll cs), .int x]) hp2.1 hp2.2 rfl ?_
    refine gj_icmp_gt (tgt := 17) C dX2_isLine_10 (by decide) (fun c3 => ?_) (fun c3 => ?_)
    · refine gj_iconst (v := 0) C dX2_isLine_17 (by decide) ?_
      exact gj_zret C hr hlk dX2_isLine_18 nz_0 (⟨congrArg (fun z => some (Value.int z)) (bI_f (by revert c1 c3; simp only [i_le, i_lt, i_eq, t_0, t_1, t_5, t_7, t_8, t_16383, t_16384, t_32768, t_1048576, vs, vl, vc, vn, ll, rF, rL, rMeet, rIn, rY, if_true, if_false, Bool.false_eq_true, ite_true, ite_false, reduceIte]; (try intros); omega)).symm, rfl⟩)
    · refine gj_iconst (v := 1) C dX2_isLine_13 (by decide) ?_
      refine gj_goto (tgt := 18) C dX2_isLine_14 (by decide) ?_
      exact gj_zret C hr hlk dX2_isLine_18 nz_1 (⟨congrArg (fun z => some (Value.int z)) (bI_t (by revert c1 c3; simp only [i_le, i_lt, i_eq, t_0, t_1, t_5, t_7, t_8, t_16383, t_16384, t_32768, t_1048576, vs, vl, vc, vn, ll, rF, rL, rMeet, rIn, rY, if_true, if_false, Bool.false_eq_true, ite_true, ite_false, reduceIte]; (try intros); omega)).symm, rfl⟩)
set_option maxRecDepth 100000 in
set_option maxHeartbeats 4000000 in
theorem k_isCell (l : Launch) (D : va_G) (tys : List (ClassId × FieldType)) (f : gm) (sh rw co : Int32) : gk l yX2_isCell (.code yX2_isCell cX2_isCell 3 (Option.some Jvm.ClassFile.FieldType.boolean)) (rmk 2 0 0) D tys [.int sh, .int rw, .int co] f (fun v u => v = some (.int (bI (decide (vc sh rw co)))) ∧ u = f) := by
  refine gk_of [some (.int sh), some (.int rw), some (.int co)] (by decide) rfl (Nat.le_of_ble_eq_true rfl) rfl ?_
  intro p e s m args below meth c A C hV hr hlk hnm
  refine gj_iload_n C dX2_isCell_0 rfl ?_
  refine gj_cS (As := [.int sh]) (rest := []) (nc := 0) (ns := 0) C hV (k_isSheet l D tys f sh) dX2_isCell_1 rfl w_47 rfl w_45 w_1 w_46 hd_X2_isSheet rfl ⟨Nat.le_of_ble_eq_true rfl, Nat.le_of_ble_eq_true rfl⟩ (Nat.le_of_ble_eq_true rfl) (by decide) (by decide) (fun v u hp1 => ?_)
  refine gj_rt (st' := [.int (bI (decide (vs sh)))]) hp1.1 hp1.2 rfl ?_
  refine gj_if_eq (tgt := 27) C dX2_isCell_4 (by decide) (fun c2 => ?_) (fun c2 => ?_)
  · refine gj_iconst (v := 0) C dX2_isCell_27 (by decide) ?_
    exact gj_zret C hr hlk dX2_isCell_28 nz_0 (⟨congrArg (fun z => some (Value.int z)) (bI_f (by have qc2 := bI_p0 c2; revert qc2; simp only [i_le, i_lt, i_eq, t_0, t_1, t_5, t_7, t_8, t_16383, t_16384, t_32768, t_1048576, vs, vl, vc, vn, ll, rF, rL, rMeet, rIn, rY, if_true, if_false, Bool.false_eq_true, ite_true, ite_false, reduceIte]; (try intros); omega)).symm, rfl⟩)
  · refine gj_iconst (v := 0) C dX2_isCell_7 (by decide) ?_
    refine gj_iload_n C dX2_isCell_8 rfl ?_
    refine gj_cS (As := [.int 0, .int rw]) (rest := []) (nc := 0) (ns := 0) C hV (k_isLine l D tys f false rw) dX2_isCell_9 rfl w_50 rfl w_48 w_1 w_49 hd_X2_isLine rfl ⟨Nat.le_of_ble_eq_true rfl, Nat.le_of_ble_eq_true rfl⟩ (Nat.le_of_ble_eq_true rfl) (by decide) (by decide) (fun v u hp3 => ?_)
    refine gj_rt (st' := [.int (bI (decide (vl false rw)))]) hp3.1 hp3.2 rfl ?_
    refine gj_if_eq (tgt := 27) C dX2_isCell_12 (by decide) (fun c4 => ?_) (fun c4 => ?_)
    · refine gj_iconst (v := 0) C dX2_isCell_27 (by decide) ?_
      exact gj_zret C hr hlk dX2_isCell_28 nz_0 (⟨congrArg (fun z => some (Value.int z)) (bI_f (by have qc2 := bI_p1 c2; have qc4 := bI_p0 c4; revert qc2 qc4; simp only [i_le, i_lt, i_eq, t_0, t_1, t_5, t_7, t_8, t_16383, t_16384, t_32768, t_1048576, vs, vl, vc, vn, ll, rF, rL, rMeet, rIn, rY, if_true, if_false, Bool.false_eq_true, ite_true, ite_false, reduceIte]; (try intros); omega)).symm, rfl⟩)
    · refine gj_iconst (v := 1) C dX2_isCell_15 (by decide) ?_
      refine gj_iload_n C dX2_isCell_16 rfl ?_
      refine gj_cS (As := [.int 1, .int co]) (rest := []) (nc := 0) (ns := 0) C hV (k_isLine l D tys f true co) dX2_isCell_17 rfl w_50 rfl w_48 w_1 w_49 hd_X2_isLine rfl ⟨Nat.le_of_ble_eq_true rfl, Nat.le_of_ble_eq_true rfl⟩ (Nat.le_of_ble_eq_true rfl) (by decide) (by decide) (fun v u hp5 => ?_)
      refine gj_rt (st' := [.int (bI (decide (vl true co)))]) hp5.1 hp5.2 rfl ?_
      refine gj_if_eq (tgt := 27) C dX2_isCell_20 (by decide) (fun c6 => ?_) (fun c6 => ?_)
      · refine gj_iconst (v := 0) C dX2_isCell_27 (by decide) ?_
        exact gj_zret C hr hlk dX2_isCell_28 nz_0 (⟨congrArg (fun z => some (Value.int z)) (bI_f (by have qc2 := bI_p1 c2; have qc4 := bI_p1 c4; have qc6 := bI_p0 c6; revert qc2 qc4 qc6; simp only [i_le, i_lt, i_eq, t_0, t_1, t_5, t_7, t_8, t_16383, t_16384, t_32768, t_1048576, vs, vl, vc, vn, ll, rF, rL, rMeet, rIn, rY, if_true, if_false, Bool.false_eq_true, ite_true, ite_false, reduceIte]; (try intros); omega)).symm, rfl⟩)
      · refine gj_iconst (v := 1) C dX2_isCell_23 (by decide) ?_
        refine gj_goto (tgt := 28) C dX2_isCell_24 (by decide) ?_
        exact gj_zret C hr hlk dX2_isCell_28 nz_1 (⟨congrArg (fun z => some (Value.int z)) (bI_t (by have qc2 := bI_p1 c2; have qc4 := bI_p1 c4; have qc6 := bI_p1 c6; revert qc2 qc4 qc6; simp only [i_le, i_lt, i_eq, t_0, t_1, t_5, t_7, t_8, t_16383, t_16384, t_32768, t_1048576, vs, vl, vc, vn, ll, rF, rL, rMeet, rIn, rY, if_true, if_false, Bool.false_eq_true, ite_true, ite_false, reduceIte]; (try intros); omega)).symm, rfl⟩)
set_option maxRecDepth 100000 in
set_option maxHeartbeats 4000000 in
theorem k_areLines (l : Launch) (D : va_G) (tys : List (ClassId × FieldType)) (f : gm) (sh : Int32) (cs : Bool) (x n : Int32) : gk l yX2_areLines (.code yX2_areLines cX2_areLines 4 (Option.some Jvm.ClassFile.FieldType.boolean)) (rmk 2 0 0) D tys [.int sh, .int (bI cs), .int x, .int n] f (fun v u => v = some (.int (bI (decide (vn sh cs x n)))) ∧ u = f) := by
  refine gk_of [some (.int sh), some (.int (bI cs)), some (.int x), some (.int n)] (by decide) rfl (Nat.le_of_ble_eq_true rfl) rfl ?_
  intro p e s m args below meth c A C hV hr hlk hnm
  refine gj_iload_n C dX2_areLines_0 rfl ?_
  refine gj_cS (As := [.int sh]) (rest := []) (nc := 0) (ns := 0) C hV (k_isSheet l D tys f sh) dX2_areLines_1 rfl w_47 rfl w_45 w_1 w_46 hd_X2_isSheet rfl ⟨Nat.le_of_ble_eq_true rfl, Nat.le_of_ble_eq_true rfl⟩ (Nat.le_of_ble_eq_true rfl) (by decide) (by decide) (fun v u hp1 => ?_)
  refine gj_rt (st' := [.int (bI (decide (vs sh)))]) hp1.1 hp1.2 rfl ?_
  refine gj_if_eq (tgt := 31) C dX2_areLines_4 (by decide) (fun c2 => ?_) (fun c2 => ?_)
  · refine gj_iconst (v := 0) C dX2_areLines_31 (by decide) ?_
    exact gj_zret C hr hlk dX2_areLines_32 nz_0 (⟨congrArg (fun z => some (Value.int z)) (bI_f (by have qc2 := bI_p0 c2; revert qc2; simp only [i_le, i_lt, i_eq, t_0, t_1, t_5, t_7, t_8, t_16383, t_16384, t_32768, t_1048576, vs, vl, vc, vn, ll, rF, rL, rMeet, rIn, rY, if_true, if_false, Bool.false_eq_true, ite_true, ite_false, reduceIte]; (try intros); omega)).symm, rfl⟩)
  · refine gj_iload_n C dX2_areLines_7 rfl ?_
    refine gj_iload_n C dX2_areLines_8 rfl ?_
    refine gj_cS (As := [.int (bI cs), .int x]) (rest := []) (nc := 0) (ns := 0) C hV (k_isLine l D tys f cs x) dX2_areLines_9 rfl w_50 rfl w_48 w_1 w_49 hd_X2_isLine rfl ⟨Nat.le_of_ble_eq_true rfl, Nat.le_of_ble_eq_true rfl⟩ (Nat.le_of_ble_eq_true rfl) (by decide) (by decide) (fun v u hp3 => ?_)
    refine gj_rt (st' := [.int (bI (decide (vl cs x)))]) hp3.1 hp3.2 rfl ?_
    refine gj_if_eq (tgt := 31) C dX2_areLines_12 (by decide) (fun c4 => ?_) (fun c4 => ?_)
    · refine gj_iconst (v := 0) C dX2_areLines_31 (by decide) ?_
      exact gj_zret C hr hlk dX2_areLines_32 nz_0 (⟨congrArg (fun z => some (Value.int z)) (bI_f (by have qc2 := bI_p1 c2; have qc4 := bI_p0 c4; revert qc2 qc4; simp only [i_le, i_lt, i_eq, t_0, t_1, t_5, t_7, t_8, t_16383, t_16384, t_32768, t_1048576, vs, vl, vc, vn, ll, rF, rL, rMeet, rIn, rY, if_true, if_false, Bool.false_eq_true, ite_true, ite_false, reduceIte]; (try intros); omega)).symm, rfl⟩)
    · refine gj_iload_n C dX2_areLines_15 rfl ?_
      refine gj_iconst (v := 1) C dX2_areLines_16 (by decide) ?_
      refine gj_icmp_lt (tgt := 31) C dX2_areLines_17 (by decide) (fun c5 => ?_) (fun c5 => ?_)
      · refine gj_iconst (v := 0) C dX2_areLines_31 (by decide) ?_
        exact gj_zret C hr hlk dX2_areLines_32 nz_0 (⟨congrArg (fun z => some (Value.int z)) (bI_f (by have qc2 := bI_p1 c2; have qc4 := bI_p1 c4; revert qc2 qc4 c5; simp only [i_le, i_lt, i_eq, t_0, t_1, t_5, t_7, t_8, t_16383, t_16384, t_32768, t_1048576, vs, vl, vc, vn, ll, rF, rL, rMeet, rIn, rY, if_true, if_false, Bool.false_eq_true, ite_true, ite_false, reduceIte]; (try intros); omega)).symm, rfl⟩)
      · refine gj_iload_n C dX2_areLines_20 rfl ?_
        refine gj_sipush (v := 16384) C dX2_areLines_21 (by decide) ?_
        refine gj_icmp_gt (tgt := 31) C dX2_areLines_24 (by decide) (fun c6 => ?_) (fun c6 => ?_)
        · refine gj_iconst (v := 0) C dX2_areLines_31 (by decide) ?_
          exact gj_zret C hr hlk dX2_areLines_32 nz_0 (⟨congrArg (fun z => some (Value.int z)) (bI_f (by have qc2 := bI_p1 c2; have qc4 := bI_p1 c4; revert qc2 qc4 c5 c6; simp only [i_le, i_lt, i_eq, t_0, t_1, t_5, t_7, t_8, t_16383, t_16384, t_32768, t_1048576, vs, vl, vc, vn, ll, rF, rL, rMeet, rIn, rY, if_true, if_false, Bool.false_eq_true, ite_true, ite_false, reduceIte]; (try intros); omega)).symm, rfl⟩)
        · refine gj_iconst (v := 1) C dX2_areLines_27 (by decide) ?_
          refine gj_goto (tgt := 32) C dX2_areLines_28 (by decide) ?_
          exact gj_zret C hr hlk dX2_areLines_32 nz_1 (⟨congrArg (fun z => some (Value.int z)) (bI_t (by have qc2 := bI_p1 c2; have qc4 := bI_p1 c4; revert qc2 qc4 c5 c6; simp only [i_le, i_lt, i_eq, t_0, t_1, t_5, t_7, t_8, t_16383, t_16384, t_32768, t_1048576, vs, vl, vc, vn, ll, rF, rL, rMeet, rIn, rY, if_true, if_false, Bool.false_eq_true, ite_true, ite_false, reduceIte]; (try intros); omega)).symm, rfl⟩)
