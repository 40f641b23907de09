/-! RangeReaders: the public methods that never throw. By gen/m20.py. -/
set_option maxRecDepth 100000 in
set_option maxHeartbeats 4000000 in
theorem k_init (l : Launch) (D : va_G) (cI cN cZ cJ : ClassId) (f : gm) (x : Nat) (h0 : f x = some (.inr (2, [.null, .null, .int 0, .null, .int 0]))) : gk l yX2_init (.code yX2_init cX2_init 1 (Option.none : Option Jvm.ClassFile.FieldType)) (rmk 0 2 32) D (tyl cI cN cZ cJ) [.ref x] f (fun v u => v = none ∧ Rp cI cN u x none (fun _ => none) 16 []) := by
  refine gk_of [some (.ref x)] (by decide) rfl (Nat.le_of_ble_eq_true rfl) rfl ?_
  intro p e s m args below meth c A C hV hr hlk hnm
  refine gj_aload_n C dX2_init_0 rfl ?_
  refine gj_objInit C dX2_init_1 w_16 w_17 w_18 (Nat.le_of_ble_eq_true rfl) (Nat.le_of_ble_eq_true rfl) ?_
  refine gj_aload_n C dX2_init_4 rfl ?_
  refine gj_null C dX2_init_5 ?_
  refine gj_put C dX2_init_6 h0 rfl inX2 tyX2_ok nmX2 0 (by decide) w_21 rfl rfl rfl (Nat.le_of_ble_eq_true rfl) ?_
  refine gj_aload_n C dX2_init_9 rfl ?_
  refine gj_bipush (v := 16) C dX2_init_10 (by decide) ?_
  refine gj_newq (N := 16) (nc := 1) (ns := 16) C 1 dX2_init_12 rfl w_19 (hV.2.2.1 _ (List.mem_of_getElem? (i := 0) rfl)) (by decide) (by decide) (by decide) (by decide) (by decide) (fun b1 hb1 => ?_)
  refine gj_put C dX2_init_15 (gm_up_of gm_up_self hb1) rfl inX2 tyX2_ok nmX2 1 (by decide) w_22 rfl rfl rfl (Nat.le_of_ble_eq_true rfl) ?_
  refine gj_aload_n C dX2_init_18 rfl ?_
  refine gj_iconst (v := 0) C dX2_init_19 (by decide) ?_
  refine gj_put C dX2_init_20 gm_up_self rfl inX2 tyX2_ok nmX2 2 (by decide) w_23 rfl rfl rfl (Nat.le_of_ble_eq_true rfl) ?_
  refine gj_aload_n C dX2_init_23 rfl ?_
  refine gj_bipush (v := 16) C dX2_init_24 (by decide) ?_
  refine gj_newa (N := 16) (a0 := (16, .inl (fun _ => 0))) (nc := 0) (ns := 0) C 0 dX2_init_26 rfl rfl w_37 (fun _ => rfl) (by decide) (by decide) (by decide) (by decide) (by decide) (fun b2 hb2 => ?_)
  refine gj_put C dX2_init_28 (gm_up_of gm_up_self hb2) rfl inX2 tyX2_ok nmX2 3 (by decide) w_24 rfl rfl rfl (Nat.le_of_ble_eq_true rfl) ?_
  refine gj_aload_n C dX2_init_31 rfl ?_
  refine gj_iconst (v := 0) C dX2_init_32 (by decide) ?_
  refine gj_put C dX2_init_33 gm_up_self rfl inX2 tyX2_ok nmX2 4 (by decide) w_25 rfl rfl rfl (Nat.le_of_ble_eq_true rfl) ?_
  have n1 : b1 ≠ x := fun h => by rw [h, gm_up_self] at hb1; cases hb1
  have n2 : b2 ≠ x := fun h => by rw [h, gm_up_self] at hb2; cases hb2
  have n3 : b1 ≠ b2 := fun h => by rw [← h, gm_up_ne n1, gm_up_ne n1, gm_up_self] at hb2; cases hb2
  exact gj_vret C hr hlk dX2_init_36 (⟨rfl, Rp_new (b1 := b1) (b2 := b2) gm_up_self (by rw [gm_up_ne n1, gm_up_ne n1, gm_up_ne n3, gm_up_ne n1, gm_up_ne n1, gm_up_self]) (by rw [gm_up_ne n2, gm_up_ne n2, gm_up_self])⟩)
set_option maxRecDepth 100000 in
set_option maxHeartbeats 4000000 in
theorem k_count (l : Launch) (D : va_G) (cI cN cZ cJ : ClassId) (f : gm) (x : Nat) (nx : Option Rc) (en : Nat → Option En) (n : Nat) (ml : List Nat) (hR : Rp cI cN f x nx en n ml) : gk l yX2_count (.code yX2_count cX2_count 1 (Option.some Jvm.ClassFile.FieldType.int)) (rmk 0 0 0) D (tyl cI cN cZ cJ) [.ref x] f (fun v u => v = some (.int (nI (cn en 4096))) ∧ u = f) := by
  refine gk_of [some (.ref x)] (by decide) rfl (Nat.le_of_ble_eq_true rfl) rfl ?_
  intro p e s m args below meth c A C hV hr hlk hnm
  have hR9 := hR
  obtain ⟨q, hE, hM, k, g, mf, ar, hW⟩ := hR9
  have hn : n ≤ 1024 := hW.2.2.2.1.2.1
  have hk : k ≤ 1024 := hW.2.2.2.1.2.2.1
  refine gj_aload_n C dX2_count_0 rfl ?_
  refine gj_get C dX2_count_1 hW.1.1 rfl inX2 2 (by decide) w_23 rfl ?_
  exact gj_iret C hr hlk dX2_count_4 (⟨by rw [cn_none hR.bd.1 4096 (by omega)], rfl⟩)
set_option maxRecDepth 100000 in
set_option maxHeartbeats 4000000 in
theorem k_remove (l : Launch) (D : va_G) (cI cN cZ cJ : ClassId) (f : gm) (x : Nat) (nx : Option Rc) (en : Nat → Option En) (n : Nat) (ml : List Nat) (num : Int32) (hR : Rp cI cN f x nx en n ml) : gk l yX2_remove (.code yX2_remove cX2_remove 2 (Option.some Jvm.ClassFile.FieldType.boolean)) (rmk 1 0 0) D (tyl cI cN cZ cJ) [.ref x, .int num] f (fun v u => v = some (.int (bI (thr en num))) ∧ Rp cI cN u x nx (rmE en num) n ml) := by
  refine gk_of [some (.ref x), some (.int num)] (by decide) rfl (Nat.le_of_ble_eq_true rfl) rfl ?_
  intro p e s m args below meth c A C hV hr hlk hnm
  obtain ⟨q, hE, hM, k, g, mf, ar, hW⟩ := hR
  have hn : n ≤ 1024 := hW.2.2.2.1.2.1
  have hk : k ≤ 1024 := hW.2.2.2.1.2.2.1
  refine gj_aload_n C dX2_remove_0 rfl ?_
  refine gj_iload_n C dX2_remove_1 rfl ?_
  refine gj_cV (As := [.int num]) (rest := []) (nc := 0) (ns := 0) C hV (k_entryAt l D cI cN cZ cJ f x q hE hM _ _ n g num hW.1.1 hW.1.2.1 hn) dX2_remove_2 rfl w_89 rfl w_86 w_1 w_88 ws_0 hd_X2_entryAt rfl hW.1.1 rfl ⟨Nat.le_of_ble_eq_true rfl, Nat.le_of_ble_eq_true rfl⟩ (Nat.le_of_ble_eq_true rfl) (by decide) (by decide) (fun v u hp => ?_)
  obtain ⟨hp1, hu⟩ := hp
  rcases hp1 with ⟨i, hi, hij, hv⟩ | ⟨hno, hv⟩
  · subst hij
    cases hei : en i with
    | none =>
      refine gj_rt (st' := [.null]) (hv.trans (by rw [rpw_no hW hi hei] <;> rfl)) hu rfl ?_
      refine gj_ifnonnullN C dX2_remove_5 ?_
      refine gj_iconst (v := 0) C dX2_remove_8 (by decide) ?_
      exact gj_zret C hr hlk dX2_remove_9 nz_0 (⟨by rw [((thr_nI (by omega)).trans (by rw [hei] <;> rfl))] <;> rfl, by rw [rmE_f ((thr_nI (by omega)).trans (by rw [hei] <;> rfl))]; exact ⟨q, hE, hM, k, g, mf, ar, hW⟩⟩)
    | some e0 =>
      obtain ⟨z, z1, z2, z3⟩ := rpw_at hW hi hei
      refine gj_rt (st' := [.ref z]) (hv.trans (by rw [z1])) hu rfl ?_
      refine gj_ifnonnull (tgt := 10) C dX2_remove_5 (by decide) ?_
      refine gj_aload_n C dX2_remove_10 rfl ?_
      refine gj_iload_n C dX2_remove_11 rfl ?_
      refine gj_cV (As := [.int (nI i)]) (rest := []) (nc := 0) (ns := 0) C hV (k_release l D cI cN cZ cJ f x q hE hM _ _ n g i z hW.1.1 hW.1.2.1 hn hi z1) dX2_remove_12 rfl w_93 rfl w_90 w_1 w_92 ws_1 hd_X2_release rfl hW.1.1 rfl ⟨Nat.le_of_ble_eq_true rfl, Nat.le_of_ble_eq_true rfl⟩ (Nat.le_of_ble_eq_true rfl) (by decide) (by decide) (fun v u hp1 => ?_)
      refine gj_rt (f := (gm_up (gm_up f hE (aE cN n (va_up g i none))) x (cRR q hE (nI (cn en n) - 1) hM (nI ml.length)))) (st' := []) hp1.1 hp1.2 rfl ?_
      refine gj_iconst (v := 1) C dX2_remove_15 (by decide) ?_
      exact gj_zret C hr hlk dX2_remove_16 nz_1 (⟨by rw [thr_nI (by omega), hei]; rfl, by rw [rmE_nI (by omega) hei]; exact ⟨q, hE, hM, k, _, mf, ar, rpw_rel hW hi hei⟩⟩)
  · refine gj_rt (st' := [.null]) hv hu rfl ?_
    refine gj_ifnonnullN C dX2_remove_5 ?_
    refine gj_iconst (v := 0) C dX2_remove_8 (by decide) ?_
    exact gj_zret C hr hlk dX2_remove_9 nz_0 (⟨by rw [(thr_no (by omega) hno hW.2.2.2.1.1)] <;> rfl, by rw [rmE_f (thr_no (by omega) hno hW.2.2.2.1.1)]; exact ⟨q, hE, hM, k, g, mf, ar, hW⟩⟩)
set_option maxRecDepth 100000 in
set_option maxHeartbeats 4000000 in
theorem k_entry (l : Launch) (D : va_G) (cI cN cZ cJ : ClassId) (f : gm) (x : Nat) (nx : Option Rc) (en : Nat → Option En) (n : Nat) (ml : List Nat) (num wh : Int32) (hR : Rp cI cN f x nx en n ml) : gk l yX2_entry (.code yX2_entry cX2_entry 4 (Option.some Jvm.ClassFile.FieldType.int)) (rmk 1 0 0) D (tyl cI cN cZ cJ) [.ref x, .int num, .int wh] f (fun v u => v = some (.int (enA en num wh)) ∧ u = f) := by
  refine gk_of [some (.ref x), some (.int num), some (.int wh), none] (by decide) rfl (Nat.le_of_ble_eq_true rfl) rfl ?_
  intro p e s m args below meth c A C hV hr hlk hnm
  obtain ⟨q, hE, hM, k, g, mf, ar, hW⟩ := hR
  have hn : n ≤ 1024 := hW.2.2.2.1.2.1
  have hk : k ≤ 1024 := hW.2.2.2.1.2.2.1
  refine gj_aload_n C dX2_entry_0 rfl ?_
  refine gj_iload_n C dX2_entry_1 rfl ?_
  refine gj_cV (As := [.int num]) (rest := []) (nc := 0) (ns := 0) C hV (k_entryAt l D cI cN cZ cJ f x q hE hM _ _ n g num hW.1.1 hW.1.2.1 hn) dX2_entry_2 rfl w_89 rfl w_86 w_1 w_88 ws_0 hd_X2_entryAt rfl hW.1.1 rfl ⟨Nat.le_of_ble_eq_true rfl, Nat.le_of_ble_eq_true rfl⟩ (Nat.le_of_ble_eq_true rfl) (by decide) (by decide) (fun v u hp => ?_)
  obtain ⟨hp1, hu⟩ := hp
  rcases hp1 with ⟨i, hi, hij, hv⟩ | ⟨hno, hv⟩
  · subst hij
    cases hei : en i with
    | none =>
      refine gj_rt (st' := [.null]) (hv.trans (by rw [rpw_no hW hi hei] <;> rfl)) hu rfl ?_
      refine gj_astore_nN (lw' := [some (.ref x), some (.int (nI i)), some (.int wh), some (.null)]) C dX2_entry_5 (by decide) rfl rfl ?_
      refine gj_aload_nN C dX2_entry_6 rfl ?_
      refine gj_ifnonnullN C dX2_entry_7 ?_
      refine gj_iconst (v := (-1)) C dX2_entry_10 (by decide) ?_
      exact gj_iret C hr hlk dX2_entry_11 (⟨by rw [enA_no ((thr_nI (by omega)).trans (by rw [hei] <;> rfl))], rfl⟩)
    | some e0 =>
      obtain ⟨z, z1, z2, z3⟩ := rpw_at hW hi hei
      refine gj_rt (st' := [.ref z]) (hv.trans (by rw [z1])) hu rfl ?_
      refine gj_astore_n (lw' := [some (.ref x), some (.int (nI i)), some (.int wh), some (.ref z)]) C dX2_entry_5 (by decide) rfl rfl ?_
      refine gj_aload_n C dX2_entry_6 rfl ?_
      refine gj_ifnonnull (tgt := 12) C dX2_entry_7 (by decide) ?_
      refine gj_iload_n C dX2_entry_12 rfl ?_
      rcases sw6 wh with rfl | rfl | rfl | rfl | rfl | rfl | hw
      · refine gj_tabIn (off := 39) (tgt := 52) C dX2_entry_13 (by decide) (by decide) (by decide) (by decide) ?_
        refine gj_aload_n C dX2_entry_52 rfl ?_
        refine gj_getN C dX2_entry_53 z2 rfl inX1 0 (by decide) (hV.2.1 _ nw_8) rfl ?_
        refine gj_getN C dX2_entry_56 z3 rfl inX0 0 (by decide) (hV.2.1 _ nw_1) rfl ?_
        exact gj_iret C hr hlk dX2_entry_59 (⟨by rw [enA_nI (by omega) hei]; rfl, rfl⟩)
      · refine gj_tabIn (off := 47) (tgt := 60) C dX2_entry_13 (by decide) (by decide) (by decide) (by decide) ?_
        refine gj_aload_n C dX2_entry_60 rfl ?_
        refine gj_getN C dX2_entry_61 z2 rfl inX1 0 (by decide) (hV.2.1 _ nw_8) rfl ?_
        refine gj_getN C dX2_entry_64 z3 rfl inX0 1 (by decide) (hV.2.1 _ nw_2) rfl ?_
        exact gj_iret C hr hlk dX2_entry_67 (⟨by rw [enA_nI (by omega) hei]; rfl, rfl⟩)
      · refine gj_tabIn (off := 55) (tgt := 68) C dX2_entry_13 (by decide) (by decide) (by decide) (by decide) ?_
        refine gj_aload_n C dX2_entry_68 rfl ?_
        refine gj_getN C dX2_entry_69 z2 rfl inX1 0 (by decide) (hV.2.1 _ nw_8) rfl ?_
        refine gj_getN C dX2_entry_72 z3 rfl inX0 2 (by decide) (hV.2.1 _ nw_3) rfl ?_
        exact gj_iret C hr hlk dX2_entry_75 (⟨by rw [enA_nI (by omega) hei]; rfl, rfl⟩)
      · refine gj_tabIn (off := 63) (tgt := 76) C dX2_entry_13 (by decide) (by decide) (by decide) (by decide) ?_
        refine gj_aload_n C dX2_entry_76 rfl ?_
        refine gj_getN C dX2_entry_77 z2 rfl inX1 0 (by decide) (hV.2.1 _ nw_8) rfl ?_
        refine gj_getN C dX2_entry_80 z3 rfl inX0 3 (by decide) (hV.2.1 _ nw_4) rfl ?_
        exact gj_iret C hr hlk dX2_entry_83 (⟨by rw [enA_nI (by omega) hei]; rfl, rfl⟩)
      · refine gj_tabIn (off := 71) (tgt := 84) C dX2_entry_13 (by decide) (by decide) (by decide) (by decide) ?_
        refine gj_aload_n C dX2_entry_84 rfl ?_
        refine gj_getN C dX2_entry_85 z2 rfl inX1 0 (by decide) (hV.2.1 _ nw_8) rfl ?_
        refine gj_getN C dX2_entry_88 z3 rfl inX0 4 (by decide) (hV.2.1 _ nw_5) rfl ?_
        exact gj_iret C hr hlk dX2_entry_91 (⟨by rw [enA_nI (by omega) hei]; rfl, rfl⟩)
      · refine gj_tabIn (off := 79) (tgt := 92) C dX2_entry_13 (by decide) (by decide) (by decide) (by decide) ?_
        refine gj_aload_n C dX2_entry_92 rfl ?_
        refine gj_getN C dX2_entry_93 z2 rfl inX1 1 (by decide) (hV.2.1 _ nw_9) rfl ?_
        exact gj_iret C hr hlk dX2_entry_96 (⟨by rw [enA_nI (by omega) hei]; rfl, rfl⟩)
      · refine gj_tabOut (tgt := 97) C dX2_entry_13 hw (by decide) ?_
        refine gj_iconst (v := (-1)) C dX2_entry_97 (by decide) ?_
        exact gj_iret C hr hlk dX2_entry_98 (⟨by rw [enA_nI (by omega) hei, enV_out hw], rfl⟩)
  · refine gj_rt (st' := [.null]) hv hu rfl ?_
    refine gj_astore_nN (lw' := [some (.ref x), some (.int num), some (.int wh), some (.null)]) C dX2_entry_5 (by decide) rfl rfl ?_
    refine gj_aload_nN C dX2_entry_6 rfl ?_
    refine gj_ifnonnullN C dX2_entry_7 ?_
    refine gj_iconst (v := (-1)) C dX2_entry_10 (by decide) ?_
    exact gj_iret C hr hlk dX2_entry_11 (⟨by rw [enA_no (thr_no (by omega) hno hW.2.2.2.1.1)], rfl⟩)
set_option maxRecDepth 100000 in
set_option maxHeartbeats 4000000 in
theorem k_met (l : Launch) (D : va_G) (cI cN cZ cJ : ClassId) (f : gm) (x : Nat) (nx : Option Rc) (en : Nat → Option En) (n : Nat) (ml : List Nat) (num : Int32) (hR : Rp cI cN f x nx en n ml) : gk l yX2_met (.code yX2_met cX2_met 2 (Option.some Jvm.ClassFile.FieldType.int)) (rmk 0 0 0) D (tyl cI cN cZ cJ) [.ref x, .int num] f (fun v u => v = some (.int (mtA ml num)) ∧ u = f) := by
  refine gk_of [some (.ref x), some (.int num)] (by decide) rfl (Nat.le_of_ble_eq_true rfl) rfl ?_
  intro p e s m args below meth c A C hV hr hlk hnm
  obtain ⟨q, hE, hM, k, g, mf, ar, hW⟩ := hR
  have hn : n ≤ 1024 := hW.2.2.2.1.2.1
  have hk : k ≤ 1024 := hW.2.2.2.1.2.2.1
  have hl : ml.length ≤ k := hW.2.2.2.2.1
  rcases pk_ix num (n := ml.length) (by omega) with hh | hh | ⟨j, hj, rfl⟩
  · refine gj_iload_n C dX2_met_0 rfl ?_
    refine gj_if_ltT (tgt := 21) C dX2_met_1 (by decide) hh ?_
    refine gj_iconst (v := (-1)) C dX2_met_21 (by decide) ?_
    exact gj_iret C hr hlk dX2_met_22 (⟨by rw [mtA_neg hh], rfl⟩)
  · refine gj_iload_n C dX2_met_0 rfl ?_
    refine gj_if_lt (tgt := 21) C dX2_met_1 (by decide) (fun c1 => ?_) (fun c1 => ?_)
    · refine gj_iconst (v := (-1)) C dX2_met_21 (by decide) ?_
      exact gj_iret C hr hlk dX2_met_22 (⟨by rw [mtA_ge (by omega) hh], rfl⟩)
    · refine gj_iload_n C dX2_met_4 rfl ?_
      refine gj_aload_n C dX2_met_5 rfl ?_
      refine gj_get C dX2_met_6 hW.1.1 rfl inX2 4 (by decide) w_25 rfl ?_
      refine gj_icmp_geT (tgt := 21) C dX2_met_9 (by decide) hh ?_
      refine gj_iconst (v := (-1)) C dX2_met_21 (by decide) ?_
      exact gj_iret C hr hlk dX2_met_22 (⟨by rw [mtA_ge (by omega) hh], rfl⟩)
  · refine gj_iload_n C dX2_met_0 rfl ?_
    refine gj_if_ltF (tgt := 21) C dX2_met_1 (by decide) (nI_pos (by omega)) ?_
    refine gj_iload_n C dX2_met_4 rfl ?_
    refine gj_aload_n C dX2_met_5 rfl ?_
    refine gj_get C dX2_met_6 hW.1.1 rfl inX2 4 (by decide) w_25 rfl ?_
    refine gj_icmp_geF (tgt := 21) C dX2_met_9 (by decide) (nI_ge hj (by omega)) ?_
    refine gj_iload_n C dX2_met_12 rfl ?_
    refine gj_aload_n C dX2_met_13 rfl ?_
    refine gj_get C dX2_met_14 hW.1.1 rfl inX2 3 (by decide) w_24 rfl ?_
    refine gj_alen C 0 dX2_met_17 hW.1.2.2 rfl ?_
    refine gj_icmp_ltT (tgt := 23) C dX2_met_18 (by decide) (nI_lt (by omega) (by omega)) ?_
    refine gj_aload_n C dX2_met_23 rfl ?_
    refine gj_get C dX2_met_24 hW.1.1 rfl inX2 3 (by decide) w_24 rfl ?_
    refine gj_iload_n C dX2_met_27 rfl ?_
    refine gj_ialdN C 0 dX2_met_28 hW.1.2.2 rfl (by omega) (by omega) ?_
    exact gj_iret C hr hlk dX2_met_29 (⟨by rw [mtA_nI (by omega) hj, hW.2.2.2.2.2 j hj], rfl⟩)
set_option maxRecDepth 100000 in
set_option maxHeartbeats 4000000 in
theorem k_rectangle (l : Launch) (D : va_G) (cI cN cZ cJ : ClassId) (f : gm) (x : Nat) (nx : Option Rc) (en : Nat → Option En) (n : Nat) (ml : List Nat) (sh tp lf bt rt : Int32) (hR : Rp cI cN f x nx en n ml) : gk l yX2_rectangle (.code yX2_rectangle cX2_rectangle 7 (Option.some Jvm.ClassFile.FieldType.boolean)) (rmk 3 1 5) D (tyl cI cN cZ cJ) [.ref x, .int sh, .int tp, .int lf, .int bt, .int rt] f (fun v u => v = some (.int (bI (decide (vr (sh, tp, lf, bt, rt))))) ∧ Rp cI cN u x (if vr (sh, tp, lf, bt, rt) then some (sh, tp, lf, bt, rt) else nx) en n ml) := by
  refine gk_of [some (.ref x), some (.int sh), some (.int tp), some (.int lf), some (.int bt), some (.int rt), none] (by decide) rfl (Nat.le_of_ble_eq_true rfl) rfl ?_
  intro p e s m args below meth c A C hV hr hlk hnm
  obtain ⟨q, hE, hM, k, g, mf, ar, hW⟩ := hR
  have hn : n ≤ 1024 := hW.2.2.2.1.2.1
  have hk : k ≤ 1024 := hW.2.2.2.1.2.2.1
  refine gj_iload_n C dX2_rectangle_0 rfl ?_
  refine gj_iload_n C dX2_rectangle_1 rfl ?_
  refine gj_iload_n C dX2_rectangle_2 rfl ?_
  refine gj_cS (As := [.int sh, .int tp, .int lf]) (rest := []) (nc := 1) (ns := 5) C hV (k_isCell l D (tyl cI cN cZ cJ) f sh tp lf) dX2_rectangle_3 rfl w_44 rfl w_42 w_1 w_43 hd_X2_isCell rfl ⟨Nat.le_of_ble_eq_true rfl, Nat.le_of_ble_eq_true rfl⟩ (Nat.le_of_ble_eq_true rfl) (by decide) (by decide) (fun v u hp1 => ?_)
  refine gj_rt (st' := [.int (bI (decide (vc sh tp lf)))]) hp1.1 hp1.2 rfl ?_
  refine gj_if_eq (tgt := 24) C dX2_rectangle_6 (by decide) (fun c2 => ?_) (fun c2 => ?_)
  · refine gj_iconst (v := 0) C dX2_rectangle_24 (by decide) ?_
    refine gj_istore (lw' := [some (.ref x), some (.int sh), some (.int tp), some (.int lf), some (.int bt), some (.int rt), some (.int 0)]) C dX2_rectangle_25 (by decide) rfl rfl ?_
    refine gj_iload C dX2_rectangle_27 rfl ?_
    refine gj_if_eqT (tgt := 44) C dX2_rectangle_29 (by decide) rfl ?_
    refine gj_iconst (v := 0) C dX2_rectangle_44 (by decide) ?_
    exact gj_zret C hr hlk dX2_rectangle_45 nz_0 (⟨by rw [bI_f (show ¬ vr (sh, tp, lf, bt, rt) from (fun h => bI_p0 c2 h.1))], by rw [if_neg (show ¬ vr (sh, tp, lf, bt, rt) from (fun h => bI_p0 c2 h.1))]; exact ⟨q, hE, hM, k, g, mf, ar, hW⟩⟩)
  · refine gj_iload_n C dX2_rectangle_9 rfl ?_
    refine gj_iload C dX2_rectangle_10 rfl ?_
    refine gj_iload C dX2_rectangle_12 rfl ?_
    refine gj_cS (As := [.int sh, .int bt, .int rt]) (rest := []) (nc := 1) (ns := 5) C hV (k_isCell l D (tyl cI cN cZ cJ) f sh bt rt) dX2_rectangle_14 rfl w_44 rfl w_42 w_1 w_43 hd_X2_isCell rfl ⟨Nat.le_of_ble_eq_true rfl, Nat.le_of_ble_eq_true rfl⟩ (Nat.le_of_ble_eq_true rfl) (by decide) (by decide) (fun v u hp3 => ?_)
    refine gj_rt (st' := [.int (bI (decide (vc sh bt rt)))]) hp3.1 hp3.2 rfl ?_
    refine gj_if_eq (tgt := 24) C dX2_rectangle_17 (by decide) (fun c4 => ?_) (fun c4 => ?_)
    · refine gj_iconst (v := 0) C dX2_rectangle_24 (by decide) ?_
      refine gj_istore (lw' := [some (.ref x), some (.int sh), some (.int tp), some (.int lf), some (.int bt), some (.int rt), some (.int 0)]) C dX2_rectangle_25 (by decide) rfl rfl ?_
      refine gj_iload C dX2_rectangle_27 rfl ?_
      refine gj_if_eqT (tgt := 44) C dX2_rectangle_29 (by decide) rfl ?_
      refine gj_iconst (v := 0) C dX2_rectangle_44 (by decide) ?_
      exact gj_zret C hr hlk dX2_rectangle_45 nz_0 (⟨by rw [bI_f (show ¬ vr (sh, tp, lf, bt, rt) from (fun h => bI_p0 c4 h.2.1))], by rw [if_neg (show ¬ vr (sh, tp, lf, bt, rt) from (fun h => bI_p0 c4 h.2.1))]; exact ⟨q, hE, hM, k, g, mf, ar, hW⟩⟩)
    · refine gj_iconst (v := 1) C dX2_rectangle_20 (by decide) ?_
      refine gj_goto (tgt := 25) C dX2_rectangle_21 (by decide) ?_
      refine gj_istore (lw' := [some (.ref x), some (.int sh), some (.int tp), some (.int lf), some (.int bt), some (.int rt), some (.int 1)]) C dX2_rectangle_25 (by decide) rfl rfl ?_
      refine gj_iload C dX2_rectangle_27 rfl ?_
      refine gj_if_eqF (tgt := 44) C dX2_rectangle_29 (by decide) (by decide) ?_
      refine gj_iload C dX2_rectangle_32 rfl ?_
      refine gj_iload_n C dX2_rectangle_34 rfl ?_
      refine gj_icmp_lt (tgt := 44) C dX2_rectangle_35 (by decide) (fun c5 => ?_) (fun c5 => ?_)
      · refine gj_iconst (v := 0) C dX2_rectangle_44 (by decide) ?_
        exact gj_zret C hr hlk dX2_rectangle_45 nz_0 (⟨by rw [bI_f (show ¬ vr (sh, tp, lf, bt, rt) from (fun h => i_ltn c5 h.2.2.1))], by rw [if_neg (show ¬ vr (sh, tp, lf, bt, rt) from (fun h => i_ltn c5 h.2.2.1))]; exact ⟨q, hE, hM, k, g, mf, ar, hW⟩⟩)
      · refine gj_iload C dX2_rectangle_38 rfl ?_
        refine gj_iload_n C dX2_rectangle_40 rfl ?_
        refine gj_icmp_ge (tgt := 46) C dX2_rectangle_41 (by decide) (fun c6 => ?_) (fun c6 => ?_)
        · refine gj_aload_n C dX2_rectangle_46 rfl ?_
          refine gj_new (ci := 0) (nc := 0) (ns := 0) C dX2_rectangle_47 rfl inX0 tyX0_ok w_55 w_56 w_3 dfX0 (by decide) (by decide) (fun q7 hq7 => ?_)
          refine gj_dup C dX2_rectangle_50 rfl ?_
          refine gj_iload_n C dX2_rectangle_51 rfl ?_
          refine gj_iload_n C dX2_rectangle_52 rfl ?_
          refine gj_iload_n C dX2_rectangle_53 rfl ?_
          refine gj_iload C dX2_rectangle_54 rfl ?_
          refine gj_iload C dX2_rectangle_56 rfl ?_
          refine gj_cIN (As := [.int sh, .int tp, .int lf, .int bt, .int rt]) (rest := [.ref q7, .ref x]) (nc := 0) (ns := 0) C hV (k_Area_init l D (tyl cI cN cZ cJ) (gm_up f q7 (.inr (0, [.int 0, .int 0, .int 0, .int 0, .int 0]))) q7 (sh, tp, lf, bt, rt) 0 0 0 0 0 gm_up_self) dX2_rectangle_58 rfl w_59 rfl nw_0 w_3 w_58 rfl hd_X0_init rfl ⟨Nat.le_of_ble_eq_true rfl, Nat.le_of_ble_eq_true rfl⟩ (Nat.le_of_ble_eq_true rfl) (by decide) (by decide) (fun v u hp8 => ?_)
          refine gj_rt (f := (gm_up f q7 (cAr (sh, tp, lf, bt, rt)))) (st' := [.ref q7, .ref x]) hp8.1 (hp8.2.trans gm_up_up) rfl ?_
          refine gj_put C dX2_rectangle_61 (gm_up_of hW.1.1 hq7) rfl inX2 tyX2_ok nmX2 0 (by decide) w_21 rfl rfl rfl (Nat.le_of_ble_eq_true rfl) ?_
          refine gj_iconst (v := 1) C dX2_rectangle_64 (by decide) ?_
          exact gj_zret C hr hlk dX2_rectangle_65 nz_1 (⟨by rw [bI_t (show vr (sh, tp, lf, bt, rt) from ⟨bI_p1 c2, bI_p1 c4, (i_nlt c5), c6⟩)], by rw [if_pos (show vr (sh, tp, lf, bt, rt) from ⟨bI_p1 c2, bI_p1 c4, (i_nlt c5), c6⟩)]; exact ⟨some q7, hE, hM, k, g, mf, ar, rpw_next hW hq7 _⟩⟩)
        · refine gj_iconst (v := 0) C dX2_rectangle_44 (by decide) ?_
          exact gj_zret C hr hlk dX2_rectangle_45 nz_0 (⟨by rw [bI_f (show ¬ vr (sh, tp, lf, bt, rt) from (fun h => c6 h.2.2.2))], by rw [if_neg (show ¬ vr (sh, tp, lf, bt, rt) from (fun h => c6 h.2.2.2))]; exact ⟨q, hE, hM, k, g, mf, ar, hW⟩⟩)
set_option maxRecDepth 100000 in
set_option maxHeartbeats 4000000 in
theorem k_drop (l : Launch) (D : va_G) (cI cN cZ cJ : ClassId) (f : gm) (x : Nat) (nx : Option Rc) (en : Nat → Option En) (n : Nat) (ml : List Nat) (wo : Int32) (hR : Rp cI cN f x nx en n ml) : gk l yX2_drop (.code yX2_drop cX2_drop 5 (Option.some Jvm.ClassFile.FieldType.int)) (rmk 1 0 0) D (tyl cI cN cZ cJ) [.ref x, .int wo] f (fun v u => v = some (.int (nI (cbE (chD wo) en 4096))) ∧ Rp cI cN u x nx (mapE (phD wo) en) n ml) := by
  refine gk_of [some (.ref x), some (.int wo), none, none, none] (by decide) rfl (Nat.le_of_ble_eq_true rfl) rfl ?_
  intro p e s m args below meth c A C hV hr hlk hnm
  have hd : ∀ j, n ≤ j → en j = none := hR.bd.1
  have hn : n ≤ 1024 := hR.bd.2.1
  have loop : ∀ (d i : Nat) (f : gm), i + d = n → Rp cI cN f x nx (mapI (phD wo) en i) n ml → gj p l e (rmk 1 0 0) s m args below meth c D vwCl A 5 (MQ below (gk_Q (fun v u => v = some (.int (nI (cbE (chD wo) en 4096))) ∧ Rp cI cN u x nx (mapE (phD wo) en) n ml) D A) args s (rmk 1 0 0).cells (rmk 1 0 0).slots A) f 0 0 4 [some (.ref x), some (.int wo), some (.int (nI (cbE (chD wo) en i))), some (.int (nI i)), none] [] := by
    intro d
    induction d with
    | zero =>
      intro i f hid hR
      rw [show mapI (phD wo) en i = mapI (phD wo) en n by rw [show i = n by omega]] at hR
      obtain ⟨q, hE, hM, k, g, mf, ar, hW⟩ := id hR
      refine gj_iload_n C dX2_drop_4 rfl ?_
      refine gj_aload_n C dX2_drop_5 rfl ?_
      refine gj_get C dX2_drop_6 hW.1.1 rfl inX2 1 (by decide) w_22 rfl ?_
      refine gj_alen C 1 dX2_drop_9 hW.1.2.1 rfl ?_
      refine gj_icmp_geT (tgt := 49) C dX2_drop_10 (by decide) (by rw [show i = n by omega]; exact Int32.le_refl _) ?_
      refine gj_iload_n C dX2_drop_49 rfl ?_
      exact gj_iret C hr hlk dX2_drop_50 (⟨by rw [cbE_none hd 4096 (by omega), show i = n by omega], by rw [← mapI_end (φ := (phD wo)) hd]; exact hR⟩)
    | succ d ih =>
      intro i f hid hR
      have hj : i < n := by omega
      obtain ⟨q, hE, hM, k, g, mf, ar, hW⟩ := id hR
      cases hei : en i with
      | none =>
        refine gj_iload_n C dX2_drop_4 rfl ?_
        refine gj_aload_n C dX2_drop_5 rfl ?_
        refine gj_get C dX2_drop_6 hW.1.1 rfl inX2 1 (by decide) w_22 rfl ?_
        refine gj_alen C 1 dX2_drop_9 hW.1.2.1 rfl ?_
        refine gj_icmp_geF (tgt := 49) C dX2_drop_10 (by decide) (nI_ge hj (by omega)) ?_
        refine gj_aload_n C dX2_drop_13 rfl ?_
        refine gj_get C dX2_drop_14 hW.1.1 rfl inX2 1 (by decide) w_22 rfl ?_
        refine gj_iload_n C dX2_drop_17 rfl ?_
        refine gj_aaldN C 1 dX2_drop_18 hW.1.2.1 rfl hj (by omega) ?_
        refine gj_st (st' := [.null]) (by rw [rpw_no hW hj (mapI_at.trans hei)]; rfl) ?_
        refine gj_astoreN (lw' := [some (.ref x), some (.int wo), some (.int (nI (cbE (chD wo) en i))), some (.int (nI i)), some (.null)]) C dX2_drop_19 (by decide) rfl rfl ?_
        refine gj_aloadN C dX2_drop_21 rfl ?_
        refine gj_ifnullN (tgt := 43) C dX2_drop_23 (by decide) ?_
        refine gj_iinc (v := (nI (i + 1))) (lw' := [some (.ref x), some (.int wo), some (.int (nI (cbE (chD wo) en i))), some (.int (nI (i + 1))), some (.null)]) C dX2_drop_43 rfl (nI_1 i) (by decide) rfl rfl ?_
        refine gj_goto (tgt := 4) C dX2_drop_46 (by decide) ?_
        refine gj_un 4 (lw' := [some (.ref x), some (.int wo), some (.int (nI (cbE (chD wo) en i))), some (.int (nI (i + 1))), none]) rfl ?_
        have h9 := ih (i + 1) f (by omega) (by rw [mapI_n hei]; exact hR)
        rw [cb_n hei] at h9
        exact h9
      | some e0 =>
        obtain ⟨z, z1, z2, z3⟩ := rpw_at hW hj (mapI_at.trans hei)
        refine gj_iload_n C dX2_drop_4 rfl ?_
        refine gj_aload_n C dX2_drop_5 rfl ?_
        refine gj_get C dX2_drop_6 hW.1.1 rfl inX2 1 (by decide) w_22 rfl ?_
        refine gj_alen C 1 dX2_drop_9 hW.1.2.1 rfl ?_
        refine gj_icmp_geF (tgt := 49) C dX2_drop_10 (by decide) (nI_ge hj (by omega)) ?_
        refine gj_aload_n C dX2_drop_13 rfl ?_
        refine gj_get C dX2_drop_14 hW.1.1 rfl inX2 1 (by decide) w_22 rfl ?_
        refine gj_iload_n C dX2_drop_17 rfl ?_
        refine gj_aaldN C 1 dX2_drop_18 hW.1.2.1 rfl hj (by omega) ?_
        refine gj_st (st' := [.ref z]) (by rw [z1]; rfl) ?_
        refine gj_astore (lw' := [some (.ref x), some (.int wo), some (.int (nI (cbE (chD wo) en i))), some (.int (nI i)), some (.ref z)]) C dX2_drop_19 (by decide) rfl rfl ?_
        refine gj_aload C dX2_drop_21 rfl ?_
        refine gj_ifnull C dX2_drop_23 ?_
        refine gj_aload C dX2_drop_26 rfl ?_
        refine gj_getN C dX2_drop_28 z2 rfl inX1 1 (by decide) (hV.2.1 _ nw_9) rfl ?_
        refine gj_iload_n C dX2_drop_31 rfl ?_
        refine gj_icmp_ne (tgt := 43) C dX2_drop_32 (by decide) (fun c1 => ?_) (fun c1 => ?_)
        · refine gj_iinc (v := (nI (i + 1))) (lw' := [some (.ref x), some (.int wo), some (.int (nI (cbE (chD wo) en i))), some (.int (nI (i + 1))), some (.ref z)]) C dX2_drop_43 rfl (nI_1 i) (by decide) rfl rfl ?_
          refine gj_goto (tgt := 4) C dX2_drop_46 (by decide) ?_
          refine gj_un 4 (lw' := [some (.ref x), some (.int wo), some (.int (nI (cbE (chD wo) en i))), some (.int (nI (i + 1))), none]) rfl ?_
          have h9 := ih (i + 1) f (by omega) (by rw [mapI_k hei (phD_f c1)]; exact hR)
          rw [cb_f hei (decide_eq_false c1)] at h9
          exact h9
        · refine gj_aload_n C dX2_drop_35 rfl ?_
          refine gj_iload_n C dX2_drop_36 rfl ?_
          refine gj_cV (As := [.int (nI i)]) (rest := []) (nc := 0) (ns := 0) C hV (k_release l D cI cN cZ cJ f x q hE hM _ _ n g i z hW.1.1 hW.1.2.1 hn hj z1) dX2_drop_37 rfl w_93 rfl w_90 w_1 w_92 ws_1 hd_X2_release rfl hW.1.1 rfl ⟨Nat.le_of_ble_eq_true rfl, Nat.le_of_ble_eq_true rfl⟩ (Nat.le_of_ble_eq_true rfl) (by decide) (by decide) (fun v u hp2 => ?_)
          refine gj_rt (f := (gm_up (gm_up f hE (aE cN n (va_up g i none))) x (cRR q hE (nI (cn (mapI (phD wo) en i) n) - 1) hM (nI ml.length)))) (st' := []) hp2.1 hp2.2 rfl ?_
          refine gj_iinc (v := (nI ((cbE (chD wo) en i) + 1))) (lw' := [some (.ref x), some (.int wo), some (.int (nI ((cbE (chD wo) en i) + 1))), some (.int (nI i)), some (.ref z)]) C dX2_drop_40 rfl (nI_1 (cbE (chD wo) en i)) (by decide) rfl rfl ?_
          refine gj_iinc (v := (nI (i + 1))) (lw' := [some (.ref x), some (.int wo), some (.int (nI ((cbE (chD wo) en i) + 1))), some (.int (nI (i + 1))), some (.ref z)]) C dX2_drop_43 rfl (nI_1 i) (by decide) rfl rfl ?_
          refine gj_goto (tgt := 4) C dX2_drop_46 (by decide) ?_
          refine gj_un 4 (lw' := [some (.ref x), some (.int wo), some (.int (nI ((cbE (chD wo) en i) + 1))), some (.int (nI (i + 1))), none]) rfl ?_
          have h9 := ih (i + 1) _ (by omega) (by rw [mapI_s hei, phD_t c1]; exact ⟨q, hE, hM, k, _, mf, ar, rpw_rel hW hj (mapI_at.trans hei)⟩)
          rw [cb_t hei (decide_eq_true c1)] at h9
          exact h9
  refine gj_iconst (v := 0) C dX2_drop_0 (by decide) ?_
  refine gj_istore_n (lw' := [some (.ref x), some (.int wo), some (.int 0), none, none]) C dX2_drop_1 (by decide) rfl rfl ?_
  refine gj_iconst (v := 0) C dX2_drop_2 (by decide) ?_
  refine gj_istore_n (lw' := [some (.ref x), some (.int wo), some (.int 0), some (.int 0), none]) C dX2_drop_3 (by decide) rfl rfl ?_
  exact loop n 0 f (by omega) (by rw [mapI_0]; exact hR)
