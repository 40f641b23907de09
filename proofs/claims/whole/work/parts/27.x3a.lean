/-! RangeReadersModel: its small methods. By gen/m27.py. -/
set_option maxRecDepth 100000 in
set_option maxHeartbeats 4000000 in
theorem k_within (l : Launch) (D : va_G) (tys : List (ClassId × FieldType)) (f : gm) (x lo hi : Int32) : gk l yX3_within (.code yX3_within cX3_within 3 (Option.some Jvm.ClassFile.FieldType.boolean)) (rmk 0 0 0) D tys [.int x, .int lo, .int hi] f (fun v u => v = some (.int (bI (decide (wn x lo hi)))) ∧ u = f) := by
  refine gk_of [some (.int x), some (.int lo), some (.int hi)] (by decide) rfl (Nat.le_of_ble_eq_true rfl) rfl ?_
  intro p e s m args below meth c A C hV hr hlk hnm
  refine gj_iload_n C dX3_within_0 rfl ?_
  refine gj_iload_n C dX3_within_1 rfl ?_
  refine gj_icmp_lt (tgt := 14) C dX3_within_2 (by decide) (fun c1 => ?_) (fun c1 => ?_)
  · refine gj_iconst (v := 0) C dX3_within_14 (by decide) ?_
    exact gj_zret C hr hlk dX3_within_15 nz_0 (⟨congrArg (fun z => some (Value.int z)) (bI_f (by revert c1; simp only [i_le, i_lt, i_eq, t_0, t_1, t_5, t_7, t_8, t_16383, t_16384, t_32768, t_1048576, vs, vl, vc, vn, ll, rF, rL, rMeet, rIn, rY, if_true, if_false, Bool.false_eq_true, ite_true, ite_false, reduceIte, wn]; (try intros); omega)).symm, rfl⟩)
  · refine gj_iload_n C dX3_within_5 rfl ?_
    refine gj_iload_n C dX3_within_6 rfl ?_
    refine gj_icmp_gt (tgt := 14) C dX3_within_7 (by decide) (fun c2 => ?_) (fun c2 => ?_)
    · refine gj_iconst (v := 0) C dX3_within_14 (by decide) ?_
      exact gj_zret C hr hlk dX3_within_15 nz_0 (⟨congrArg (fun z => some (Value.int z)) (bI_f (by revert c1 c2; simp only [i_le, i_lt, i_eq, t_0, t_1, t_5, t_7, t_8, t_16383, t_16384, t_32768, t_1048576, vs, vl, vc, vn, ll, rF, rL, rMeet, rIn, rY, if_true, if_false, Bool.false_eq_true, ite_true, ite_false, reduceIte, wn]; (try intros); omega)).symm, rfl⟩)
    · refine gj_iconst (v := 1) C dX3_within_10 (by decide) ?_
      refine gj_goto (tgt := 15) C dX3_within_11 (by decide) ?_
      exact gj_zret C hr hlk dX3_within_15 nz_1 (⟨congrArg (fun z => some (Value.int z)) (bI_t (by revert c1 c2; simp only [i_le, i_lt, i_eq, t_0, t_1, t_5, t_7, t_8, t_16383, t_16384, t_32768, t_1048576, vs, vl, vc, vn, ll, rF, rL, rMeet, rIn, rY, if_true, if_false, Bool.false_eq_true, ite_true, ite_false, reduceIte, wn]; (try intros); omega)).symm, rfl⟩)
set_option maxRecDepth 100000 in
set_option maxHeartbeats 4000000 in
theorem k_linesOf (l : Launch) (D : va_G) (tys : List (ClassId × FieldType)) (f : gm) (cs : Bool) : gk l yX3_linesOf (.code yX3_linesOf cX3_linesOf 1 (Option.some Jvm.ClassFile.FieldType.int)) (rmk 0 0 0) D tys [.int (bI cs)] f (fun v u => v = some (.int (ll cs)) ∧ u = f) := by
  refine gk_of [some (.int (bI cs))] (by decide) rfl (Nat.le_of_ble_eq_true rfl) rfl ?_
  intro p e s m args below meth c A C hV hr hlk hnm
  cases cs
  · refine gj_iload_n C dX3_linesOf_0 rfl ?_
    refine gj_if_eqT (tgt := 10) C dX3_linesOf_1 (by decide) rfl ?_
    refine gj_ldc (v := 1048576) C dX3_linesOf_10 w_393 ?_
    exact gj_iret C hr hlk dX3_linesOf_12 (⟨rfl, rfl⟩)
  · refine gj_iload_n C dX3_linesOf_0 rfl ?_
    refine gj_if_eqF (tgt := 10) C dX3_linesOf_1 (by decide) (by decide) ?_
    refine gj_sipush (v := 16384) C dX3_linesOf_4 (by decide) ?_
    refine gj_goto (tgt := 12) C dX3_linesOf_7 (by decide) ?_
    exact gj_iret C hr hlk dX3_linesOf_12 (⟨rfl, rfl⟩)
set_option maxRecDepth 100000 in
set_option maxHeartbeats 4000000 in
theorem k_MisLine (l : Launch) (D : va_G) (cI cN cZ cJ : ClassId) (f : gm) (y : Nat) (sh : Int32) (cs : Bool) (at0 num : Int32) : gk l yX3_isLine (.code yX3_isLine cX3_isLine 5 (Option.some Jvm.ClassFile.FieldType.boolean)) (rmk 1 0 0) D (tyl cI cN cZ cJ) [.ref y, .int sh, .int (bI cs), .int at0, .int num] f (fun v u => v = some (.int (bI (decide (vn sh cs at0 num)))) ∧ u = f) := by
  refine gk_of [some (.ref y), some (.int sh), some (.int (bI cs)), some (.int at0), some (.int num)] (by decide) rfl (Nat.le_of_ble_eq_true rfl) rfl ?_
  intro p e s m args below meth c A C hV hr hlk hnm
  refine gj_iload_n C dX3_isLine_0 rfl ?_
  refine gj_iconst (v := 0) C dX3_isLine_1 (by decide) ?_
  refine gj_bipush (v := 7) C dX3_isLine_2 (by decide) ?_
  refine gj_cS (As := [.int sh, .int 0, .int 7]) (rest := []) (nc := 0) (ns := 0) C hV (k_within l D (tyl cI cN cZ cJ) f sh 0 7) dX3_isLine_4 rfl w_392 rfl w_390 w_2 w_391 hd_X3_within rfl ⟨Nat.le_of_ble_eq_true rfl, Nat.le_of_ble_eq_true rfl⟩ (Nat.le_of_ble_eq_true rfl) (by decide) (by decide) (fun v u hp1 => ?_)
  refine gj_rt (st' := [.int (bI (decide (wn sh 0 7)))]) hp1.1 hp1.2 rfl ?_
  refine gj_if_eq (tgt := 38) C dX3_isLine_7 (by decide) (fun c2 => ?_) (fun c2 => ?_)
  · refine gj_iconst (v := 0) C dX3_isLine_38 (by decide) ?_
    exact gj_zret C hr hlk dX3_isLine_39 nz_0 (⟨congrArg (fun z => some (Value.int z)) (bI_f (by have qc2 := bI_p0 c2; revert qc2; simp only [i_le, i_lt, i_eq, t_0, t_1, t_5, t_7, t_8, t_16383, t_16384, t_32768, t_1048576, vs, vl, vc, vn, ll, rF, rL, rMeet, rIn, rY, if_true, if_false, Bool.false_eq_true, ite_true, ite_false, reduceIte, wn, vr]; (try intros); omega)).symm, rfl⟩)
  · refine gj_iload_n C dX3_isLine_10 rfl ?_
    refine gj_iconst (v := 1) C dX3_isLine_11 (by decide) ?_
    refine gj_iload_n C dX3_isLine_12 rfl ?_
    refine gj_cS (As := [.int (bI cs)]) (rest := [.int 1, .int at0]) (nc := 0) (ns := 0) C hV (k_linesOf l D (tyl cI cN cZ cJ) f cs) dX3_isLine_13 rfl w_452 rfl w_450 w_2 w_451 hd_X3_linesOf rfl ⟨Nat.le_of_ble_eq_true rfl, Nat.le_of_ble_eq_true rfl⟩ (Nat.le_of_ble_eq_true rfl) (by decide) (by decide) (fun v u hp3 => ?_)
    refine gj_rt (st' := [.int (ll cs), .int 1, .int at0]) hp3.1 hp3.2 rfl ?_
    refine gj_cS (As := [.int at0, .int 1, .int (ll cs)]) (rest := []) (nc := 0) (ns := 0) C hV (k_within l D (tyl cI cN cZ cJ) f at0 1 (ll cs)) dX3_isLine_16 rfl w_392 rfl w_390 w_2 w_391 hd_X3_within rfl ⟨Nat.le_of_ble_eq_true rfl, Nat.le_of_ble_eq_true rfl⟩ (Nat.le_of_ble_eq_true rfl) (by decide) (by decide) (fun v u hp4 => ?_)
    refine gj_rt (st' := [.int (bI (decide (wn at0 1 (ll cs))))]) hp4.1 hp4.2 rfl ?_
    refine gj_if_eq (tgt := 38) C dX3_isLine_19 (by decide) (fun c5 => ?_) (fun c5 => ?_)
    · refine gj_iconst (v := 0) C dX3_isLine_38 (by decide) ?_
      exact gj_zret C hr hlk dX3_isLine_39 nz_0 (⟨congrArg (fun z => some (Value.int z)) (bI_f (by have qc2 := bI_p1 c2; have qc5 := bI_p0 c5; revert qc2 qc5; simp only [i_le, i_lt, i_eq, t_0, t_1, t_5, t_7, t_8, t_16383, t_16384, t_32768, t_1048576, vs, vl, vc, vn, ll, rF, rL, rMeet, rIn, rY, if_true, if_false, Bool.false_eq_true, ite_true, ite_false, reduceIte, wn, vr]; (try intros); omega)).symm, rfl⟩)
    · refine gj_iload C dX3_isLine_22 rfl ?_
      refine gj_iconst (v := 1) C dX3_isLine_24 (by decide) ?_
      refine gj_sipush (v := 16384) C dX3_isLine_25 (by decide) ?_
      refine gj_cS (As := [.int num, .int 1, .int 16384]) (rest := []) (nc := 0) (ns := 0) C hV (k_within l D (tyl cI cN cZ cJ) f num 1 16384) dX3_isLine_28 rfl w_392 rfl w_390 w_2 w_391 hd_X3_within rfl ⟨Nat.le_of_ble_eq_true rfl, Nat.le_of_ble_eq_true rfl⟩ (Nat.le_of_ble_eq_true rfl) (by decide) (by decide) (fun v u hp6 => ?_)
      refine gj_rt (st' := [.int (bI (decide (wn num 1 16384)))]) hp6.1 hp6.2 rfl ?_
      refine gj_if_eq (tgt := 38) C dX3_isLine_31 (by decide) (fun c7 => ?_) (fun c7 => ?_)
      · refine gj_iconst (v := 0) C dX3_isLine_38 (by decide) ?_
        exact gj_zret C hr hlk dX3_isLine_39 nz_0 (⟨congrArg (fun z => some (Value.int z)) (bI_f (by have qc2 := bI_p1 c2; have qc5 := bI_p1 c5; have qc7 := bI_p0 c7; revert qc2 qc5 qc7; simp only [i_le, i_lt, i_eq, t_0, t_1, t_5, t_7, t_8, t_16383, t_16384, t_32768, t_1048576, vs, vl, vc, vn, ll, rF, rL, rMeet, rIn, rY, if_true, if_false, Bool.false_eq_true, ite_true, ite_false, reduceIte, wn, vr]; (try intros); omega)).symm, rfl⟩)
      · refine gj_iconst (v := 1) C dX3_isLine_34 (by decide) ?_
        refine gj_goto (tgt := 39) C dX3_isLine_35 (by decide) ?_
        exact gj_zret C hr hlk dX3_isLine_39 nz_1 (⟨congrArg (fun z => some (Value.int z)) (bI_t (by have qc2 := bI_p1 c2; have qc5 := bI_p1 c5; have qc7 := bI_p1 c7; revert qc2 qc5 qc7; simp only [i_le, i_lt, i_eq, t_0, t_1, t_5, t_7, t_8, t_16383, t_16384, t_32768, t_1048576, vs, vl, vc, vn, ll, rF, rL, rMeet, rIn, rY, if_true, if_false, Bool.false_eq_true, ite_true, ite_false, reduceIte, wn, vr]; (try intros); omega)).symm, rfl⟩)
set_option maxRecDepth 100000 in
set_option maxHeartbeats 4000000 in
theorem k_MisThere (l : Launch) (D : va_G) (cI cN cZ cJ : ClassId) (f : gm) (y : Nat) (cd : Int32) (nx : Option Rc) (en : Nat → Option En) (ml : List Nat) (ad : Nat → Nat) (ga : Nat → Nat → Int32) (isR : Int32) (r5 : Rc) (ent : Int32) (num : Int32) (hW : rpm cI cZ f y cd nx en ml ad ga isR r5 ent) : gk l yX3_isThere (.code yX3_isThere cX3_isThere 2 (Option.some Jvm.ClassFile.FieldType.boolean)) (rmk 0 0 0) D (tyl cI cN cZ cJ) [.ref y, .int num] f (fun v u => v = some (.int (bI (thr en num))) ∧ u = f) := by
  refine gk_of [some (.ref y), some (.int num)] (by decide) rfl (Nat.le_of_ble_eq_true rfl) rfl ?_
  intro p e s m args below meth c A C hV hr hlk hnm
  have hd := hW.2.2.2.2.1
  rcases pk_ix num (n := 4096) (by decide) with hh | hh | ⟨j, hj, rfl⟩
  · refine gj_iload_n C dX3_isThere_0 rfl ?_
    refine gj_if_ltT (tgt := 24) C dX3_isThere_1 (by decide) hh ?_
    refine gj_iconst (v := 0) C dX3_isThere_24 (by decide) ?_
    exact gj_zret C hr hlk dX3_isThere_25 nz_0 (⟨by rw [thr_no (by decide) (fun i hi h => by rw [h] at hh; exact nI_pos (by omega) hh) hd] <;> rfl, rfl⟩)
  · refine gj_iload_n C dX3_isThere_0 rfl ?_
    refine gj_if_lt (tgt := 24) C dX3_isThere_1 (by decide) (fun c1 => ?_) (fun c1 => ?_)
    · refine gj_iconst (v := 0) C dX3_isThere_24 (by decide) ?_
      exact gj_zret C hr hlk dX3_isThere_25 nz_0 (⟨by rw [thr_no (by decide) (fun i hi h => by rw [h] at hh; exact nI_ge hi (by decide) hh) hd] <;> rfl, rfl⟩)
    · refine gj_iload_n C dX3_isThere_4 rfl ?_
      refine gj_sipush (v := 4096) C dX3_isThere_5 (by decide) ?_
      refine gj_icmp_geT (tgt := 24) C dX3_isThere_8 (by decide) hh ?_
      refine gj_iconst (v := 0) C dX3_isThere_24 (by decide) ?_
      exact gj_zret C hr hlk dX3_isThere_25 nz_0 (⟨by rw [thr_no (by decide) (fun i hi h => by rw [h] at hh; exact nI_ge hi (by decide) hh) hd] <;> rfl, rfl⟩)
  · cases hei : en j with
    | none =>
      have g0 := rpm_no hW hj hei
      refine gj_iload_n C dX3_isThere_0 rfl ?_
      refine gj_if_ltF (tgt := 24) C dX3_isThere_1 (by decide) (nI_pos (by omega)) ?_
      refine gj_iload_n C dX3_isThere_4 rfl ?_
      refine gj_sipush (v := 4096) C dX3_isThere_5 (by decide) ?_
      refine gj_icmp_geF (tgt := 24) C dX3_isThere_8 (by decide) (nI_ge hj (by decide)) ?_
      refine gj_aload_n C dX3_isThere_11 rfl ?_
      refine gj_get C dX3_isThere_12 hW.1.1 rfl inX3 1 (by decide) w_330 rfl ?_
      refine gj_iload_n C dX3_isThere_15 rfl ?_
      refine gj_zaldN C 2 dX3_isThere_16 hW.1.2.1 rfl hj (by decide) ?_
      refine gj_st (st' := [.int 0]) (by rw [g0]) ?_
      refine gj_if_eqT (tgt := 24) C dX3_isThere_17 (by decide) rfl ?_
      refine gj_iconst (v := 0) C dX3_isThere_24 (by decide) ?_
      exact gj_zret C hr hlk dX3_isThere_25 nz_0 (⟨by rw [thr_nI (by omega), hei] <;> rfl, rfl⟩)
    | some e0 =>
      obtain ⟨g0, g1, g2, g3, g4, g5, g6⟩ := rpm_at hW hj hei
      refine gj_iload_n C dX3_isThere_0 rfl ?_
      refine gj_if_ltF (tgt := 24) C dX3_isThere_1 (by decide) (nI_pos (by omega)) ?_
      refine gj_iload_n C dX3_isThere_4 rfl ?_
      refine gj_sipush (v := 4096) C dX3_isThere_5 (by decide) ?_
      refine gj_icmp_geF (tgt := 24) C dX3_isThere_8 (by decide) (nI_ge hj (by decide)) ?_
      refine gj_aload_n C dX3_isThere_11 rfl ?_
      refine gj_get C dX3_isThere_12 hW.1.1 rfl inX3 1 (by decide) w_330 rfl ?_
      refine gj_iload_n C dX3_isThere_15 rfl ?_
      refine gj_zaldN C 2 dX3_isThere_16 hW.1.2.1 rfl hj (by decide) ?_
      refine gj_st (st' := [.int 1]) (by rw [g0]) ?_
      refine gj_if_eqF (tgt := 24) C dX3_isThere_17 (by decide) (by decide) ?_
      refine gj_iconst (v := 1) C dX3_isThere_20 (by decide) ?_
      refine gj_goto (tgt := 25) C dX3_isThere_21 (by decide) ?_
      exact gj_zret C hr hlk dX3_isThere_25 nz_1 (⟨by rw [thr_nI (by omega), hei] <;> rfl, rfl⟩)
set_option maxRecDepth 100000 in
set_option maxHeartbeats 4000000 in
theorem k_Mgo (l : Launch) (D : va_G) (cI cN cZ cJ : ClassId) (f : gm) (y : Nat) (cd : Int32) (nx : Option Rc) (en : Nat → Option En) (ml : List Nat) (ad : Nat → Nat) (ga : Nat → Nat → Int32) (isR : Int32) (r5 : Rc) (ent : Int32) (j : Nat) (hW : rpm cI cZ f y cd nx en ml ad ga isR r5 ent) (hj : j < 4096) : gk l yX3_go (.code yX3_go cX3_go 2 (Option.none : Option Jvm.ClassFile.FieldType)) (rmk 0 0 0) D (tyl cI cN cZ cJ) [.ref y, .int (nI j)] f (fun v u => v = none ∧ u = gm_up (gm_up f (ad 0) (aZ cZ (upd (ga 0) j 0))) y (cMo cd ad (ent - 1) isR r5 (nI ml.length))) := by
  refine gk_of [some (.ref y), some (.int (nI j))] (by decide) rfl (Nat.le_of_ble_eq_true rfl) rfl ?_
  intro p e s m args below meth c A C hV hr hlk hnm
  refine gj_aload_n C dX3_go_0 rfl ?_
  refine gj_get C dX3_go_1 hW.1.1 rfl inX3 1 (by decide) w_330 rfl ?_
  refine gj_iload_n C dX3_go_4 rfl ?_
  refine gj_iconst (v := 0) C dX3_go_5 (by decide) ?_
  refine gj_zastN C 2 dX3_go_6 hW.1.2.1 rfl hj (by decide) ?_
  refine gj_f (f' := gm_up f (ad 0) (aZ cZ (upd (ga 0) j 0))) (by rw [vpn_0]) ?_
  refine gj_aload_n C dX3_go_7 rfl ?_
  refine gj_dup C dX3_go_8 rfl ?_
  refine gj_get C dX3_go_9 ((gm_up_ne (gm_ne hW.1.1 hW.1.2.1 (by simp))).trans hW.1.1) rfl inX3 8 (by decide) w_337 rfl ?_
  refine gj_iconst (v := 1) C dX3_go_12 (by decide) ?_
  refine gj_isub C dX3_go_13 ?_
  refine gj_put C dX3_go_14 ((gm_up_ne (gm_ne hW.1.1 hW.1.2.1 (by simp))).trans hW.1.1) rfl inX3 tyX3_ok nmX3 8 (by decide) w_337 rfl rfl rfl (Nat.le_of_ble_eq_true rfl) ?_
  exact gj_vret C hr hlk dX3_go_17 (⟨rfl, rfl⟩)
set_option maxRecDepth 100000 in
set_option maxHeartbeats 4000000 in
theorem k_Mmeets (l : Launch) (D : va_G) (cI cN cZ cJ : ClassId) (f : gm) (y : Nat) (cd : Int32) (nx : Option Rc) (en : Nat → Option En) (ml : List Nat) (ad : Nat → Nat) (ga : Nat → Nat → Int32) (isR : Int32) (r5 : Rc) (ent : Int32) (j : Nat) (s1 t1 l1 b1 r1 : Int32) (hW : rpm cI cZ f y cd nx en ml ad ga isR r5 ent) (hj : j < 4096) : gk l yX3_meets (.code yX3_meets cX3_meets 7 (Option.some Jvm.ClassFile.FieldType.boolean)) (rmk 0 0 0) D (tyl cI cN cZ cJ) [.ref y, .int (nI j), .int s1, .int t1, .int l1, .int b1, .int r1] f (fun v u => v = some (.int (bI (mtb en (s1, t1, l1, b1, r1) j))) ∧ u = f) := by
  refine gk_of [some (.ref y), some (.int (nI j)), some (.int s1), some (.int t1), some (.int l1), some (.int b1), some (.int r1)] (by decide) rfl (Nat.le_of_ble_eq_true rfl) rfl ?_
  intro p e s m args below meth c A C hV hr hlk hnm
  cases hei : en j with
  | none =>
    have g0 := rpm_no hW hj hei
    refine gj_aload_n C dX3_meets_0 rfl ?_
    refine gj_get C dX3_meets_1 hW.1.1 rfl inX3 1 (by decide) w_330 rfl ?_
    refine gj_iload_n C dX3_meets_4 rfl ?_
    refine gj_zaldN C 2 dX3_meets_5 hW.1.2.1 rfl hj (by decide) ?_
    refine gj_st (st' := [.int 0]) (by rw [g0]) ?_
    refine gj_if_eqT (tgt := 66) C dX3_meets_6 (by decide) rfl ?_
    refine gj_iconst (v := 0) C dX3_meets_66 (by decide) ?_
    exact gj_zret C hr hlk dX3_meets_67 nz_0 (⟨by rw [mtb_n hei] <;> rfl, rfl⟩)
  | some e0 =>
    obtain ⟨g0, g1, g2, g3, g4, g5, g6⟩ := rpm_at hW hj hei
    refine gj_aload_n C dX3_meets_0 rfl ?_
    refine gj_get C dX3_meets_1 hW.1.1 rfl inX3 1 (by decide) w_330 rfl ?_
    refine gj_iload_n C dX3_meets_4 rfl ?_
    refine gj_zaldN C 2 dX3_meets_5 hW.1.2.1 rfl hj (by decide) ?_
    refine gj_st (st' := [.int 1]) (by rw [g0]) ?_
    refine gj_if_eqF (tgt := 66) C dX3_meets_6 (by decide) (by decide) ?_
    refine gj_aload_n C dX3_meets_9 rfl ?_
    refine gj_get C dX3_meets_10 hW.1.1 rfl inX3 2 (by decide) w_331 rfl ?_
    refine gj_iload_n C dX3_meets_13 rfl ?_
    refine gj_ialdN C 0 dX3_meets_14 (hW.1.2.2 1 (by decide) (by decide)) rfl hj (by decide) ?_
    refine gj_st (st' := [.int e0.1.1]) (by rw [g1]) ?_
    refine gj_iload_n C dX3_meets_15 rfl ?_
    refine gj_icmp_ne (tgt := 66) C dX3_meets_16 (by decide) (fun c1 => ?_) (fun c1 => ?_)
    · refine gj_iconst (v := 0) C dX3_meets_66 (by decide) ?_
      exact gj_zret C hr hlk dX3_meets_67 nz_0 (⟨by rw [mtb_s hei]; exact congrArg (fun z => some (Value.int z)) (bI_f (by revert c1; simp only [i_le, i_lt, i_eq, t_0, t_1, t_5, t_7, t_8, t_16383, t_16384, t_32768, t_1048576, vs, vl, vc, vn, ll, rF, rL, rMeet, rIn, rY, if_true, if_false, Bool.false_eq_true, ite_true, ite_false, reduceIte]; (try intros); omega)).symm, rfl⟩)
    · refine gj_aload_n C dX3_meets_19 rfl ?_
      refine gj_get C dX3_meets_20 hW.1.1 rfl inX3 3 (by decide) w_332 rfl ?_
      refine gj_iload_n C dX3_meets_23 rfl ?_
      refine gj_ialdN C 0 dX3_meets_24 (hW.1.2.2 2 (by decide) (by decide)) rfl hj (by decide) ?_
      refine gj_st (st' := [.int e0.1.2.1]) (by rw [g2]) ?_
      refine gj_iload C dX3_meets_25 rfl ?_
      refine gj_icmp_gt (tgt := 66) C dX3_meets_27 (by decide) (fun c2 => ?_) (fun c2 => ?_)
      · refine gj_iconst (v := 0) C dX3_meets_66 (by decide) ?_
        exact gj_zret C hr hlk dX3_meets_67 nz_0 (⟨by rw [mtb_s hei]; exact congrArg (fun z => some (Value.int z)) (bI_f (by revert c1 c2; simp only [i_le, i_lt, i_eq, t_0, t_1, t_5, t_7, t_8, t_16383, t_16384, t_32768, t_1048576, vs, vl, vc, vn, ll, rF, rL, rMeet, rIn, rY, if_true, if_false, Bool.false_eq_true, ite_true, ite_false, reduceIte]; (try intros); omega)).symm, rfl⟩)
      · refine gj_aload_n C dX3_meets_30 rfl ?_
        refine gj_get C dX3_meets_31 hW.1.1 rfl inX3 5 (by decide) w_334 rfl ?_
        refine gj_iload_n C dX3_meets_34 rfl ?_
        refine gj_ialdN C 0 dX3_meets_35 (hW.1.2.2 4 (by decide) (by decide)) rfl hj (by decide) ?_
        refine gj_st (st' := [.int e0.1.2.2.2.1]) (by rw [g4]) ?_
        refine gj_iload_n C dX3_meets_36 rfl ?_
        refine gj_icmp_lt (tgt := 66) C dX3_meets_37 (by decide) (fun c3 => ?_) (fun c3 => ?_)
        · refine gj_iconst (v := 0) C dX3_meets_66 (by decide) ?_
          exact gj_zret C hr hlk dX3_meets_67 nz_0 (⟨by rw [mtb_s hei]; exact congrArg (fun z => some (Value.int z)) (bI_f (by revert c1 c2 c3; simp only [i_le, i_lt, i_eq, t_0, t_1, t_5, t_7, t_8, t_16383, t_16384, t_32768, t_1048576, vs, vl, vc, vn, ll, rF, rL, rMeet, rIn, rY, if_true, if_false, Bool.false_eq_true, ite_true, ite_false, reduceIte]; (try intros); omega)).symm, rfl⟩)
        · refine gj_aload_n C dX3_meets_40 rfl ?_
          refine gj_get C dX3_meets_41 hW.1.1 rfl inX3 4 (by decide) w_333 rfl ?_
          refine gj_iload_n C dX3_meets_44 rfl ?_
          refine gj_ialdN C 0 dX3_meets_45 (hW.1.2.2 3 (by decide) (by decide)) rfl hj (by decide) ?_
          refine gj_st (st' := [.int e0.1.2.2.1]) (by rw [g3]) ?_
          refine gj_iload C dX3_meets_46 rfl ?_
          refine gj_icmp_gt (tgt := 66) C dX3_meets_48 (by decide) (fun c4 => ?_) (fun c4 => ?_)
          · refine gj_iconst (v := 0) C dX3_meets_66 (by decide) ?_
            exact gj_zret C hr hlk dX3_meets_67 nz_0 (⟨by rw [mtb_s hei]; exact congrArg (fun z => some (Value.int z)) (bI_f (by revert c1 c2 c3 c4; simp only [i_le, i_lt, i_eq, t_0, t_1, t_5, t_7, t_8, t_16383, t_16384, t_32768, t_1048576, vs, vl, vc, vn, ll, rF, rL, rMeet, rIn, rY, if_true, if_false, Bool.false_eq_true, ite_true, ite_false, reduceIte]; (try intros); omega)).symm, rfl⟩)
          · refine gj_aload_n C dX3_meets_51 rfl ?_
            refine gj_get C dX3_meets_52 hW.1.1 rfl inX3 6 (by decide) w_335 rfl ?_
            refine gj_iload_n C dX3_meets_55 rfl ?_
            refine gj_ialdN C 0 dX3_meets_56 (hW.1.2.2 5 (by decide) (by decide)) rfl hj (by decide) ?_
            refine gj_st (st' := [.int e0.1.2.2.2.2]) (by rw [g5]) ?_
            refine gj_iload C dX3_meets_57 rfl ?_
            refine gj_icmp_lt (tgt := 66) C dX3_meets_59 (by decide) (fun c5 => ?_) (fun c5 => ?_)
            · refine gj_iconst (v := 0) C dX3_meets_66 (by decide) ?_
              exact gj_zret C hr hlk dX3_meets_67 nz_0 (⟨by rw [mtb_s hei]; exact congrArg (fun z => some (Value.int z)) (bI_f (by revert c1 c2 c3 c4 c5; simp only [i_le, i_lt, i_eq, t_0, t_1, t_5, t_7, t_8, t_16383, t_16384, t_32768, t_1048576, vs, vl, vc, vn, ll, rF, rL, rMeet, rIn, rY, if_true, if_false, Bool.false_eq_true, ite_true, ite_false, reduceIte]; (try intros); omega)).symm, rfl⟩)
            · refine gj_iconst (v := 1) C dX3_meets_62 (by decide) ?_
              refine gj_goto (tgt := 67) C dX3_meets_63 (by decide) ?_
              exact gj_zret C hr hlk dX3_meets_67 nz_1 (⟨by rw [mtb_s hei]; exact congrArg (fun z => some (Value.int z)) (bI_t (by revert c1 c2 c3 c4 c5; simp only [i_le, i_lt, i_eq, t_0, t_1, t_5, t_7, t_8, t_16383, t_16384, t_32768, t_1048576, vs, vl, vc, vn, ll, rF, rL, rMeet, rIn, rY, if_true, if_false, Bool.false_eq_true, ite_true, ite_false, reduceIte]; (try intros); omega)).symm, rfl⟩)
set_option maxRecDepth 100000 in
set_option maxHeartbeats 4000000 in
theorem k_MisIn (l : Launch) (D : va_G) (cI cN cZ cJ : ClassId) (f : gm) (y : Nat) (cd : Int32) (nx : Option Rc) (en : Nat → Option En) (ml : List Nat) (ad : Nat → Nat) (ga : Nat → Nat → Int32) (isR : Int32) (r5 : Rc) (ent : Int32) (j : Nat) (s1 t1 l1 b1 r1 : Int32) (hW : rpm cI cZ f y cd nx en ml ad ga isR r5 ent) (hj : j < 4096) : gk l yX3_isIn (.code yX3_isIn cX3_isIn 7 (Option.some Jvm.ClassFile.FieldType.boolean)) (rmk 0 0 0) D (tyl cI cN cZ cJ) [.ref y, .int (nI j), .int s1, .int t1, .int l1, .int b1, .int r1] f (fun v u => v = some (.int (bI (inb en (s1, t1, l1, b1, r1) j))) ∧ u = f) := by
  refine gk_of [some (.ref y), some (.int (nI j)), some (.int s1), some (.int t1), some (.int l1), some (.int b1), some (.int r1)] (by decide) rfl (Nat.le_of_ble_eq_true rfl) rfl ?_
  intro p e s m args below meth c A C hV hr hlk hnm
  cases hei : en j with
  | none =>
    have g0 := rpm_no hW hj hei
    refine gj_aload_n C dX3_isIn_0 rfl ?_
    refine gj_get C dX3_isIn_1 hW.1.1 rfl inX3 1 (by decide) w_330 rfl ?_
    refine gj_iload_n C dX3_isIn_4 rfl ?_
    refine gj_zaldN C 2 dX3_isIn_5 hW.1.2.1 rfl hj (by decide) ?_
    refine gj_st (st' := [.int 0]) (by rw [g0]) ?_
    refine gj_if_eqT (tgt := 66) C dX3_isIn_6 (by decide) rfl ?_
    refine gj_iconst (v := 0) C dX3_isIn_66 (by decide) ?_
    exact gj_zret C hr hlk dX3_isIn_67 nz_0 (⟨by rw [inb_n hei] <;> rfl, rfl⟩)
  | some e0 =>
    obtain ⟨g0, g1, g2, g3, g4, g5, g6⟩ := rpm_at hW hj hei
    refine gj_aload_n C dX3_isIn_0 rfl ?_
    refine gj_get C dX3_isIn_1 hW.1.1 rfl inX3 1 (by decide) w_330 rfl ?_
    refine gj_iload_n C dX3_isIn_4 rfl ?_
    refine gj_zaldN C 2 dX3_isIn_5 hW.1.2.1 rfl hj (by decide) ?_
    refine gj_st (st' := [.int 1]) (by rw [g0]) ?_
    refine gj_if_eqF (tgt := 66) C dX3_isIn_6 (by decide) (by decide) ?_
    refine gj_aload_n C dX3_isIn_9 rfl ?_
    refine gj_get C dX3_isIn_10 hW.1.1 rfl inX3 2 (by decide) w_331 rfl ?_
    refine gj_iload_n C dX3_isIn_13 rfl ?_
    refine gj_ialdN C 0 dX3_isIn_14 (hW.1.2.2 1 (by decide) (by decide)) rfl hj (by decide) ?_
    refine gj_st (st' := [.int e0.1.1]) (by rw [g1]) ?_
    refine gj_iload_n C dX3_isIn_15 rfl ?_
    refine gj_icmp_ne (tgt := 66) C dX3_isIn_16 (by decide) (fun c1 => ?_) (fun c1 => ?_)
    · refine gj_iconst (v := 0) C dX3_isIn_66 (by decide) ?_
      exact gj_zret C hr hlk dX3_isIn_67 nz_0 (⟨by rw [inb_s hei]; exact congrArg (fun z => some (Value.int z)) (bI_f (by revert c1; simp only [i_le, i_lt, i_eq, t_0, t_1, t_5, t_7, t_8, t_16383, t_16384, t_32768, t_1048576, vs, vl, vc, vn, ll, rF, rL, rMeet, rIn, rY, if_true, if_false, Bool.false_eq_true, ite_true, ite_false, reduceIte]; (try intros); omega)).symm, rfl⟩)
    · refine gj_aload_n C dX3_isIn_19 rfl ?_
      refine gj_get C dX3_isIn_20 hW.1.1 rfl inX3 3 (by decide) w_332 rfl ?_
      refine gj_iload_n C dX3_isIn_23 rfl ?_
      refine gj_ialdN C 0 dX3_isIn_24 (hW.1.2.2 2 (by decide) (by decide)) rfl hj (by decide) ?_
      refine gj_st (st' := [.int e0.1.2.1]) (by rw [g2]) ?_
      refine gj_iload_n C dX3_isIn_25 rfl ?_
      refine gj_icmp_lt (tgt := 66) C dX3_isIn_26 (by decide) (fun c2 => ?_) (fun c2 => ?_)
      · refine gj_iconst (v := 0) C dX3_isIn_66 (by decide) ?_
        exact gj_zret C hr hlk dX3_isIn_67 nz_0 (⟨by rw [inb_s hei]; exact congrArg (fun z => some (Value.int z)) (bI_f (by revert c1 c2; simp only [i_le, i_lt, i_eq, t_0, t_1, t_5, t_7, t_8, t_16383, t_16384, t_32768, t_1048576, vs, vl, vc, vn, ll, rF, rL, rMeet, rIn, rY, if_true, if_false, Bool.false_eq_true, ite_true, ite_false, reduceIte]; (try intros); omega)).symm, rfl⟩)
      · refine gj_aload_n C dX3_isIn_29 rfl ?_
        refine gj_get C dX3_isIn_30 hW.1.1 rfl inX3 5 (by decide) w_334 rfl ?_
        refine gj_iload_n C dX3_isIn_33 rfl ?_
        refine gj_ialdN C 0 dX3_isIn_34 (hW.1.2.2 4 (by decide) (by decide)) rfl hj (by decide) ?_
        refine gj_st (st' := [.int e0.1.2.2.2.1]) (by rw [g4]) ?_
        refine gj_iload C dX3_isIn_35 rfl ?_
        refine gj_icmp_gt (tgt := 66) C dX3_isIn_37 (by decide) (fun c3 => ?_) (fun c3 => ?_)
        · refine gj_iconst (v := 0) C dX3_isIn_66 (by decide) ?_
          exact gj_zret C hr hlk dX3_isIn_67 nz_0 (⟨by rw [inb_s hei]; exact congrArg (fun z => some (Value.int z)) (bI_f (by revert c1 c2 c3; simp only [i_le, i_lt, i_eq, t_0, t_1, t_5, t_7, t_8, t_16383, t_16384, t_32768, t_1048576, vs, vl, vc, vn, ll, rF, rL, rMeet, rIn, rY, if_true, if_false, Bool.false_eq_true, ite_true, ite_false, reduceIte]; (try intros); omega)).symm, rfl⟩)
        · refine gj_aload_n C dX3_isIn_40 rfl ?_
          refine gj_get C dX3_isIn_41 hW.1.1 rfl inX3 4 (by decide) w_333 rfl ?_
          refine gj_iload_n C dX3_isIn_44 rfl ?_
          refine gj_ialdN C 0 dX3_isIn_45 (hW.1.2.2 3 (by decide) (by decide)) rfl hj (by decide) ?_
          refine gj_st (st' := [.int e0.1.2.2.1]) (by rw [g3]) ?_
          refine gj_iload C dX3_isIn_46 rfl ?_
          refine gj_icmp_lt (tgt := 66) C dX3_isIn_48 (by decide) (fun c4 => ?_) (fun c4 => ?_)
          · refine gj_iconst (v := 0) C dX3_isIn_66 (by decide) ?_
            exact gj_zret C hr hlk dX3_isIn_67 nz_0 (⟨by rw [inb_s hei]; exact congrArg (fun z => some (Value.int z)) (bI_f (by revert c1 c2 c3 c4; simp only [i_le, i_lt, i_eq, t_0, t_1, t_5, t_7, t_8, t_16383, t_16384, t_32768, t_1048576, vs, vl, vc, vn, ll, rF, rL, rMeet, rIn, rY, if_true, if_false, Bool.false_eq_true, ite_true, ite_false, reduceIte]; (try intros); omega)).symm, rfl⟩)
          · refine gj_aload_n C dX3_isIn_51 rfl ?_
            refine gj_get C dX3_isIn_52 hW.1.1 rfl inX3 6 (by decide) w_335 rfl ?_
            refine gj_iload_n C dX3_isIn_55 rfl ?_
            refine gj_ialdN C 0 dX3_isIn_56 (hW.1.2.2 5 (by decide) (by decide)) rfl hj (by decide) ?_
            refine gj_st (st' := [.int e0.1.2.2.2.2]) (by rw [g5]) ?_
            refine gj_iload C dX3_isIn_57 rfl ?_
            refine gj_icmp_gt (tgt := 66) C dX3_isIn_59 (by decide) (fun c5 => ?_) (fun c5 => ?_)
            · refine gj_iconst (v := 0) C dX3_isIn_66 (by decide) ?_
              exact gj_zret C hr hlk dX3_isIn_67 nz_0 (⟨by rw [inb_s hei]; exact congrArg (fun z => some (Value.int z)) (bI_f (by revert c1 c2 c3 c4 c5; simp only [i_le, i_lt, i_eq, t_0, t_1, t_5, t_7, t_8, t_16383, t_16384, t_32768, t_1048576, vs, vl, vc, vn, ll, rF, rL, rMeet, rIn, rY, if_true, if_false, Bool.false_eq_true, ite_true, ite_false, reduceIte]; (try intros); omega)).symm, rfl⟩)
            · refine gj_iconst (v := 1) C dX3_isIn_62 (by decide) ?_
              refine gj_goto (tgt := 67) C dX3_isIn_63 (by decide) ?_
              exact gj_zret C hr hlk dX3_isIn_67 nz_1 (⟨by rw [inb_s hei]; exact congrArg (fun z => some (Value.int z)) (bI_t (by revert c1 c2 c3 c4 c5; simp only [i_le, i_lt, i_eq, t_0, t_1, t_5, t_7, t_8, t_16383, t_16384, t_32768, t_1048576, vs, vl, vc, vn, ll, rF, rL, rMeet, rIn, rY, if_true, if_false, Bool.false_eq_true, ite_true, ite_false, reduceIte]; (try intros); omega)).symm, rfl⟩)
set_option maxRecDepth 100000 in
set_option maxHeartbeats 4000000 in
theorem k_Mfirst (l : Launch) (D : va_G) (cI cN cZ cJ : ClassId) (f : gm) (y : Nat) (cd : Int32) (nx : Option Rc) (en : Nat → Option En) (ml : List Nat) (ad : Nat → Nat) (ga : Nat → Nat → Int32) (isR : Int32) (r5 : Rc) (ent : Int32) (j : Nat) (e0 : En) (cs : Bool) (hW : rpm cI cZ f y cd nx en ml ad ga isR r5 ent) (hj : j < 4096) (hei : en j = some e0) : gk l yX3_first (.code yX3_first cX3_first 3 (Option.some Jvm.ClassFile.FieldType.int)) (rmk 0 0 0) D (tyl cI cN cZ cJ) [.ref y, .int (nI j), .int (bI cs)] f (fun v u => v = some (.int (rF cs e0.1)) ∧ u = f) := by
  refine gk_of [some (.ref y), some (.int (nI j)), some (.int (bI cs))] (by decide) rfl (Nat.le_of_ble_eq_true rfl) rfl ?_
  intro p e s m args below meth c A C hV hr hlk hnm
  obtain ⟨g0, g1, g2, g3, g4, g5, g6⟩ := rpm_at hW hj hei
  cases cs
  · refine gj_iload_n C dX3_first_0 rfl ?_
    refine gj_if_eqT (tgt := 13) C dX3_first_1 (by decide) rfl ?_
    refine gj_aload_n C dX3_first_13 rfl ?_
    refine gj_get C dX3_first_14 hW.1.1 rfl inX3 3 (by decide) w_332 rfl ?_
    refine gj_iload_n C dX3_first_17 rfl ?_
    refine gj_ialdN C 0 dX3_first_18 (hW.1.2.2 2 (by decide) (by decide)) rfl hj (by decide) ?_
    refine gj_st (st' := [.int e0.1.2.1]) (by rw [g2]) ?_
    exact gj_iret C hr hlk dX3_first_19 (⟨rfl, rfl⟩)
  · refine gj_iload_n C dX3_first_0 rfl ?_
    refine gj_if_eqF (tgt := 13) C dX3_first_1 (by decide) (by decide) ?_
    refine gj_aload_n C dX3_first_4 rfl ?_
    refine gj_get C dX3_first_5 hW.1.1 rfl inX3 4 (by decide) w_333 rfl ?_
    refine gj_iload_n C dX3_first_8 rfl ?_
    refine gj_ialdN C 0 dX3_first_9 (hW.1.2.2 3 (by decide) (by decide)) rfl hj (by decide) ?_
    refine gj_st (st' := [.int e0.1.2.2.1]) (by rw [g3]) ?_
    refine gj_goto (tgt := 19) C dX3_first_10 (by decide) ?_
    exact gj_iret C hr hlk dX3_first_19 (⟨rfl, rfl⟩)
set_option maxRecDepth 100000 in
set_option maxHeartbeats 4000000 in
theorem k_Mlast (l : Launch) (D : va_G) (cI cN cZ cJ : ClassId) (f : gm) (y : Nat) (cd : Int32) (nx : Option Rc) (en : Nat → Option En) (ml : List Nat) (ad : Nat → Nat) (ga : Nat → Nat → Int32) (isR : Int32) (r5 : Rc) (ent : Int32) (j : Nat) (e0 : En) (cs : Bool) (hW : rpm cI cZ f y cd nx en ml ad ga isR r5 ent) (hj : j < 4096) (hei : en j = some e0) : gk l yX3_last (.code yX3_last cX3_last 3 (Option.some Jvm.ClassFile.FieldType.int)) (rmk 0 0 0) D (tyl cI cN cZ cJ) [.ref y, .int (nI j), .int (bI cs)] f (fun v u => v = some (.int (rL cs e0.1)) ∧ u = f) := by
  refine gk_of [some (.ref y), some (.int (nI j)), some (.int (bI cs))] (by decide) rfl (Nat.le_of_ble_eq_true rfl) rfl ?_
  intro p e s m args below meth c A C hV hr hlk hnm
  obtain ⟨g0, g1, g2, g3, g4, g5, g6⟩ := rpm_at hW hj hei
  cases cs
  · refine gj_iload_n C dX3_last_0 rfl ?_
    refine gj_if_eqT (tgt := 13) C dX3_last_1 (by decide) rfl ?_
    refine gj_aload_n C dX3_last_13 rfl ?_
    refine gj_get C dX3_last_14 hW.1.1 rfl inX3 5 (by decide) w_334 rfl ?_
    refine gj_iload_n C dX3_last_17 rfl ?_
    refine gj_ialdN C 0 dX3_last_18 (hW.1.2.2 4 (by decide) (by decide)) rfl hj (by decide) ?_
    refine gj_st (st' := [.int e0.1.2.2.2.1]) (by rw [g4]) ?_
    exact gj_iret C hr hlk dX3_last_19 (⟨rfl, rfl⟩)
  · refine gj_iload_n C dX3_last_0 rfl ?_
    refine gj_if_eqF (tgt := 13) C dX3_last_1 (by decide) (by decide) ?_
    refine gj_aload_n C dX3_last_4 rfl ?_
    refine gj_get C dX3_last_5 hW.1.1 rfl inX3 6 (by decide) w_335 rfl ?_
    refine gj_iload_n C dX3_last_8 rfl ?_
    refine gj_ialdN C 0 dX3_last_9 (hW.1.2.2 5 (by decide) (by decide)) rfl hj (by decide) ?_
    refine gj_st (st' := [.int e0.1.2.2.2.2]) (by rw [g5]) ?_
    refine gj_goto (tgt := 19) C dX3_last_10 (by decide) ?_
    exact gj_iret C hr hlk dX3_last_19 (⟨rfl, rfl⟩)
set_option maxRecDepth 100000 in
set_option maxHeartbeats 4000000 in
theorem k_MisPart (l : Launch) (D : va_G) (cI cN cZ cJ : ClassId) (f : gm) (y : Nat) (cd : Int32) (nx : Option Rc) (en : Nat → Option En) (ml : List Nat) (ad : Nat → Nat) (ga : Nat → Nat → Int32) (isR : Int32) (r5 : Rc) (ent : Int32) (j : Nat) (sh : Int32) (cs : Bool) (hW : rpm cI cZ f y cd nx en ml ad ga isR r5 ent) (hj : j < 4096) : gk l yX3_isPart (.code yX3_isPart cX3_isPart 4 (Option.some Jvm.ClassFile.FieldType.boolean)) (rmk 1 0 0) D (tyl cI cN cZ cJ) [.ref y, .int (nI j), .int sh, .int (bI cs)] f (fun v u => v = some (.int (bI (ptb en sh cs j))) ∧ u = f) := by
  refine gk_of [some (.ref y), some (.int (nI j)), some (.int sh), some (.int (bI cs))] (by decide) rfl (Nat.le_of_ble_eq_true rfl) rfl ?_
  intro p e s m args below meth c A C hV hr hlk hnm
  cases hei : en j with
  | none =>
    have g0 := rpm_no hW hj hei
    refine gj_aload_n C dX3_isPart_0 rfl ?_
    refine gj_get C dX3_isPart_1 hW.1.1 rfl inX3 1 (by decide) w_330 rfl ?_
    refine gj_iload_n C dX3_isPart_4 rfl ?_
    refine gj_zaldN C 2 dX3_isPart_5 hW.1.2.1 rfl hj (by decide) ?_
    refine gj_st (st' := [.int 0]) (by rw [g0]) ?_
    refine gj_if_eqT (tgt := 46) C dX3_isPart_6 (by decide) rfl ?_
    refine gj_iconst (v := 0) C dX3_isPart_46 (by decide) ?_
    exact gj_zret C hr hlk dX3_isPart_47 nz_0 (⟨by rw [ptb_n hei] <;> rfl, rfl⟩)
  | some e0 =>
    obtain ⟨g0, g1, g2, g3, g4, g5, g6⟩ := rpm_at hW hj hei
    refine gj_aload_n C dX3_isPart_0 rfl ?_
    refine gj_get C dX3_isPart_1 hW.1.1 rfl inX3 1 (by decide) w_330 rfl ?_
    refine gj_iload_n C dX3_isPart_4 rfl ?_
    refine gj_zaldN C 2 dX3_isPart_5 hW.1.2.1 rfl hj (by decide) ?_
    refine gj_st (st' := [.int 1]) (by rw [g0]) ?_
    refine gj_if_eqF (tgt := 46) C dX3_isPart_6 (by decide) (by decide) ?_
    refine gj_aload_n C dX3_isPart_9 rfl ?_
    refine gj_get C dX3_isPart_10 hW.1.1 rfl inX3 2 (by decide) w_331 rfl ?_
    refine gj_iload_n C dX3_isPart_13 rfl ?_
    refine gj_ialdN C 0 dX3_isPart_14 (hW.1.2.2 1 (by decide) (by decide)) rfl hj (by decide) ?_
    refine gj_st (st' := [.int e0.1.1]) (by rw [g1]) ?_
    refine gj_iload_n C dX3_isPart_15 rfl ?_
    refine gj_icmp_ne (tgt := 46) C dX3_isPart_16 (by decide) (fun c1 => ?_) (fun c1 => ?_)
    · refine gj_iconst (v := 0) C dX3_isPart_46 (by decide) ?_
      exact gj_zret C hr hlk dX3_isPart_47 nz_0 (⟨by rw [ptb_s hei]; exact congrArg (fun z => some (Value.int z)) (bI_f (by simp only [rY]; revert c1; simp only [i_eq, t_1]; (try intros); omega)).symm, rfl⟩)
    · refine gj_aload_n C dX3_isPart_19 rfl ?_
      refine gj_iload_n C dX3_isPart_20 rfl ?_
      refine gj_iload_n C dX3_isPart_21 rfl ?_
      refine gj_cV (As := [.int (nI j), .int (bI cs)]) (rest := []) (nc := 0) (ns := 0) C hV (k_Mfirst l D cI cN cZ cJ f y _ nx en ml ad ga isR r5 _ j e0 cs hW hj hei) dX3_isPart_22 rfl w_460 rfl w_457 w_2 w_459 ws_22 hd_X3_first rfl hW.1.1 rfl ⟨Nat.le_of_ble_eq_true rfl, Nat.le_of_ble_eq_true rfl⟩ (Nat.le_of_ble_eq_true rfl) (by decide) (by decide) (fun v u hp2 => ?_)
      refine gj_rt (st' := [.int (rF cs e0.1)]) hp2.1 hp2.2 rfl ?_
      refine gj_iconst (v := 1) C dX3_isPart_25 (by decide) ?_
      refine gj_icmp_ne (tgt := 42) C dX3_isPart_26 (by decide) (fun c3 => ?_) (fun c3 => ?_)
      · refine gj_iconst (v := 1) C dX3_isPart_42 (by decide) ?_
        refine gj_goto (tgt := 47) C dX3_isPart_43 (by decide) ?_
        exact gj_zret C hr hlk dX3_isPart_47 nz_1 (⟨by rw [ptb_s hei]; exact congrArg (fun z => some (Value.int z)) (bI_t (by simp only [rY]; revert c1 c3; simp only [i_eq, t_1]; (try intros); omega)).symm, rfl⟩)
      · refine gj_aload_n C dX3_isPart_29 rfl ?_
        refine gj_iload_n C dX3_isPart_30 rfl ?_
        refine gj_iload_n C dX3_isPart_31 rfl ?_
        refine gj_cV (As := [.int (nI j), .int (bI cs)]) (rest := []) (nc := 0) (ns := 0) C hV (k_Mlast l D cI cN cZ cJ f y _ nx en ml ad ga isR r5 _ j e0 cs hW hj hei) dX3_isPart_32 rfl w_464 rfl w_461 w_2 w_463 ws_23 hd_X3_last rfl hW.1.1 rfl ⟨Nat.le_of_ble_eq_true rfl, Nat.le_of_ble_eq_true rfl⟩ (Nat.le_of_ble_eq_true rfl) (by decide) (by decide) (fun v u hp4 => ?_)
        refine gj_rt (st' := [.int (rL cs e0.1)]) hp4.1 hp4.2 rfl ?_
        refine gj_iload_n C dX3_isPart_35 rfl ?_
        refine gj_cS (As := [.int (bI cs)]) (rest := [.int (rL cs e0.1)]) (nc := 0) (ns := 0) C hV (k_linesOf l D (tyl cI cN cZ cJ) f cs) dX3_isPart_36 rfl w_452 rfl w_450 w_2 w_451 hd_X3_linesOf rfl ⟨Nat.le_of_ble_eq_true rfl, Nat.le_of_ble_eq_true rfl⟩ (Nat.le_of_ble_eq_true rfl) (by decide) (by decide) (fun v u hp5 => ?_)
        refine gj_rt (st' := [.int (ll cs), .int (rL cs e0.1)]) hp5.1 hp5.2 rfl ?_
        refine gj_icmp_eq (tgt := 46) C dX3_isPart_39 (by decide) (fun c6 => ?_) (fun c6 => ?_)
        · refine gj_iconst (v := 0) C dX3_isPart_46 (by decide) ?_
          exact gj_zret C hr hlk dX3_isPart_47 nz_0 (⟨by rw [ptb_s hei]; exact congrArg (fun z => some (Value.int z)) (bI_f (by simp only [rY]; revert c1 c3 c6; simp only [i_eq, t_1]; (try intros); omega)).symm, rfl⟩)
        · refine gj_iconst (v := 1) C dX3_isPart_42 (by decide) ?_
          refine gj_goto (tgt := 47) C dX3_isPart_43 (by decide) ?_
          exact gj_zret C hr hlk dX3_isPart_47 nz_1 (⟨by rw [ptb_s hei]; exact congrArg (fun z => some (Value.int z)) (bI_t (by simp only [rY]; revert c1 c3 c6; simp only [i_eq, t_1]; (try intros); omega)).symm, rfl⟩)
set_option maxRecDepth 100000 in
set_option maxHeartbeats 4000000 in
theorem k_Mthrown (l : Launch) (D : va_G) (cI cN cZ cJ : ClassId) (f : gm) (y : Nat) (cd : Int32) (nx : Option Rc) (en : Nat → Option En) (ml : List Nat) (ad : Nat → Nat) (ga : Nat → Nat → Int32) (isR : Int32) (r5 : Rc) (ent : Int32) (hW : rpm cI cZ f y cd nx en ml ad ga isR r5 ent) : gk l yX3_thrown (.code yX3_thrown cX3_thrown 1 (Option.some Jvm.ClassFile.FieldType.int)) (rmk 0 0 0) D (tyl cI cN cZ cJ) [.ref y] f (fun v u => v = some (.int cd) ∧ u = f) := by
  refine gk_of [some (.ref y)] (by decide) rfl (Nat.le_of_ble_eq_true rfl) rfl ?_
  intro p e s m args below meth c A C hV hr hlk hnm
  refine gj_aload_n C dX3_thrown_0 rfl ?_
  refine gj_get C dX3_thrown_1 hW.1.1 rfl inX3 0 (by decide) w_329 rfl ?_
  exact gj_iret C hr hlk dX3_thrown_4 (⟨rfl, rfl⟩)
