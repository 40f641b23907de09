/-! RangeReadersModel: become, count, remove, rectangle, met, entry, drop. By gen/m28.py. -/
set_option maxRecDepth 100000 in
set_option maxHeartbeats 4000000 in
theorem k_Mbecome (l : Launch) (D : va_G) (cI cN cZ cJ : ClassId) (f : gm) (y : Nat) (cd : Int32) (nx : Option Rc) (en : Nat → Option En) (ml : List Nat) (j : Nat) (e0 : En) (cs : Bool) (a b : Int32) (hR : RpM cI cZ f y cd nx en ml) (hj : j < 4096) (hei : en j = some e0) : gk l yX3_become (.code yX3_become cX3_become 6 (Option.some Jvm.ClassFile.FieldType.int)) (rmk 1 0 0) D (tyl cI cN cZ cJ) [.ref y, .int (nI j), .int (bI cs), .int a, .int b] f (fun v u => v = some (.int (bI (decide (¬ (a = rF cs e0.1 ∧ b = rL cs e0.1))))) ∧ RpM cI cZ u y cd nx (va_up en j (plE cs a b e0)) ml) := by
  refine gk_of [some (.ref y), some (.int (nI j)), some (.int (bI cs)), some (.int a), some (.int b), none] (by decide) rfl (Nat.le_of_ble_eq_true rfl) rfl ?_
  intro p e s m args below meth c A C hV hr hlk hnm
  obtain ⟨ad, ga, isR, r5, hW⟩ := hR
  obtain ⟨g0, g1, g2, g3, g4, g5, g6⟩ := rpm_at hW hj hei
  cases cs
  · refine gj_iload_n C dX3_become_0 rfl ?_
    refine gj_if_eqT (tgt := 33) C dX3_become_1 (by decide) rfl ?_
    refine gj_aload_n C dX3_become_33 rfl ?_
    refine gj_get C dX3_become_34 hW.1.1 rfl inX3 3 (by decide) w_332 rfl ?_
    refine gj_iload_n C dX3_become_37 rfl ?_
    refine gj_ialdN C 0 dX3_become_38 (hW.1.2.2 2 (by decide) (by decide)) rfl hj (by decide) ?_
    refine gj_st (st' := [.int e0.1.2.1]) (by rw [g2]) ?_
    refine gj_iload_n C dX3_become_39 rfl ?_
    refine gj_icmp_ne (tgt := 58) C dX3_become_40 (by decide) (fun c1 => ?_) (fun c1 => ?_)
    · refine gj_iconst (v := 0) C dX3_become_58 (by decide) ?_
      refine gj_istore (lw' := [some (.ref y), some (.int (nI j)), some (.int (bI false)), some (.int a), some (.int b), some (.int 0)]) C dX3_become_59 (by decide) rfl rfl ?_
      refine gj_iload_n C dX3_become_61 rfl ?_
      refine gj_if_eqT (tgt := 83) C dX3_become_62 (by decide) rfl ?_
      refine gj_aload_n C dX3_become_83 rfl ?_
      refine gj_get C dX3_become_84 hW.1.1 rfl inX3 3 (by decide) w_332 rfl ?_
      refine gj_iload_n C dX3_become_87 rfl ?_
      refine gj_iload_n C dX3_become_88 rfl ?_
      refine gj_iastN C 0 dX3_become_89 (hW.1.2.2 2 (by decide) (by decide)) rfl hj (by decide) ?_
      have hW := rpm_st hW hj hei 2 (by decide) (by decide) a
      have hei1 := va_up_self en j (some (setk 2 a e0))
      generalize gm_up f (ad 2) (.inl (cI, 4096, .inl (upd (ga 2) j a))) = f at hW ⊢
      generalize va_up ga 2 (upd (ga 2) j a) = ga at hW
      refine gj_aload_n C dX3_become_90 rfl ?_
      refine gj_get C dX3_become_91 hW.1.1 rfl inX3 5 (by decide) w_334 rfl ?_
      refine gj_iload_n C dX3_become_94 rfl ?_
      refine gj_iload C dX3_become_95 rfl ?_
      refine gj_iastN C 0 dX3_become_97 (hW.1.2.2 4 (by decide) (by decide)) rfl hj (by decide) ?_
      have hW := rpm_st hW hj hei1 4 (by decide) (by decide) b
      have hei1 := va_up_self (va_up en j (some (setk 2 a e0))) j (some (setk 4 b (setk 2 a e0)))
      generalize gm_up f (ad 4) (.inl (cI, 4096, .inl (upd (ga 4) j b))) = f at hW ⊢
      generalize va_up ga 4 (upd (ga 4) j b) = ga at hW
      refine gj_iload_n C dX3_become_98 rfl ?_
      refine gj_iload C dX3_become_99 rfl ?_
      refine gj_icmp_le (tgt := 109) C dX3_become_101 (by decide) (fun c2 => ?_) (fun c2 => ?_)
      · refine gj_iload C dX3_become_109 rfl ?_
        refine gj_if_eqT (tgt := 118) C dX3_become_111 (by decide) rfl ?_
        refine gj_iconst (v := 1) C dX3_become_118 (by decide) ?_
        exact gj_iret C hr hlk dX3_become_119 (⟨congrArg (fun z => some (Value.int z)) (bI_tn (fun h => c1 h.1.symm)).symm, ⟨ad, ga, isR, r5, by rw [plE_s c2, cn_same hei]; rw [bx_uu] at hW; exact hW⟩⟩)
      · refine gj_aload_n C dX3_become_104 rfl ?_
        refine gj_iload_n C dX3_become_105 rfl ?_
        refine gj_cV (As := [.int (nI j)]) (rest := []) (nc := 0) (ns := 0) C hV (k_Mgo l D cI cN cZ cJ f y _ nx _ ml ad _ isR r5 _ j hW hj) dX3_become_106 rfl w_409 rfl w_406 w_2 w_408 ws_17 hd_X3_go rfl hW.1.1 rfl ⟨Nat.le_of_ble_eq_true rfl, Nat.le_of_ble_eq_true rfl⟩ (Nat.le_of_ble_eq_true rfl) (by decide) (by decide) (fun v u hp => ?_)
        refine gj_rt (st' := []) hp.1 hp.2 rfl ?_
        refine gj_iload C dX3_become_109 rfl ?_
        refine gj_if_eqT (tgt := 118) C dX3_become_111 (by decide) rfl ?_
        refine gj_iconst (v := 1) C dX3_become_118 (by decide) ?_
        exact gj_iret C hr hlk dX3_become_119 (⟨congrArg (fun z => some (Value.int z)) (bI_tn (fun h => c1 h.1.symm)).symm, ⟨ad, _, isR, r5, by rw [plE_n c2]; have h9 := rpm_go (by rw [bx_uu, cn_same hei] at *; exact hW) hj hei1; rw [bx_uu, bx_uu] at h9; rw [cn_same hei] at h9; exact h9⟩⟩)
    · refine gj_aload_n C dX3_become_43 rfl ?_
      refine gj_get C dX3_become_44 hW.1.1 rfl inX3 5 (by decide) w_334 rfl ?_
      refine gj_iload_n C dX3_become_47 rfl ?_
      refine gj_ialdN C 0 dX3_become_48 (hW.1.2.2 4 (by decide) (by decide)) rfl hj (by decide) ?_
      refine gj_st (st' := [.int e0.1.2.2.2.1]) (by rw [g4]) ?_
      refine gj_iload C dX3_become_49 rfl ?_
      refine gj_icmp_ne (tgt := 58) C dX3_become_51 (by decide) (fun c3 => ?_) (fun c3 => ?_)
      · refine gj_iconst (v := 0) C dX3_become_58 (by decide) ?_
        refine gj_istore (lw' := [some (.ref y), some (.int (nI j)), some (.int (bI false)), some (.int a), some (.int b), some (.int 0)]) C dX3_become_59 (by decide) rfl rfl ?_
        refine gj_iload_n C dX3_become_61 rfl ?_
        refine gj_if_eqT (tgt := 83) C dX3_become_62 (by decide) rfl ?_
        refine gj_aload_n C dX3_become_83 rfl ?_
        refine gj_get C dX3_become_84 hW.1.1 rfl inX3 3 (by decide) w_332 rfl ?_
        refine gj_iload_n C dX3_become_87 rfl ?_
        refine gj_iload_n C dX3_become_88 rfl ?_
        refine gj_iastN C 0 dX3_become_89 (hW.1.2.2 2 (by decide) (by decide)) rfl hj (by decide) ?_
        have hW := rpm_st hW hj hei 2 (by decide) (by decide) a
        have hei1 := va_up_self en j (some (setk 2 a e0))
        generalize gm_up f (ad 2) (.inl (cI, 4096, .inl (upd (ga 2) j a))) = f at hW ⊢
        generalize va_up ga 2 (upd (ga 2) j a) = ga at hW
        refine gj_aload_n C dX3_become_90 rfl ?_
        refine gj_get C dX3_become_91 hW.1.1 rfl inX3 5 (by decide) w_334 rfl ?_
        refine gj_iload_n C dX3_become_94 rfl ?_
        refine gj_iload C dX3_become_95 rfl ?_
        refine gj_iastN C 0 dX3_become_97 (hW.1.2.2 4 (by decide) (by decide)) rfl hj (by decide) ?_
        have hW := rpm_st hW hj hei1 4 (by decide) (by decide) b
        have hei1 := va_up_self (va_up en j (some (setk 2 a e0))) j (some (setk 4 b (setk 2 a e0)))
        generalize gm_up f (ad 4) (.inl (cI, 4096, .inl (upd (ga 4) j b))) = f at hW ⊢
        generalize va_up ga 4 (upd (ga 4) j b) = ga at hW
        refine gj_iload_n C dX3_become_98 rfl ?_
        refine gj_iload C dX3_become_99 rfl ?_
        refine gj_icmp_le (tgt := 109) C dX3_become_101 (by decide) (fun c4 => ?_) (fun c4 => ?_)
        · refine gj_iload C dX3_become_109 rfl ?_
          refine gj_if_eqT (tgt := 118) C dX3_become_111 (by decide) rfl ?_
          refine gj_iconst (v := 1) C dX3_become_118 (by decide) ?_
          exact gj_iret C hr hlk dX3_become_119 (⟨congrArg (fun z => some (Value.int z)) (bI_tn (fun h => c3 h.2.symm)).symm, ⟨ad, ga, isR, r5, by rw [plE_s c4, cn_same hei]; rw [bx_uu] at hW; exact hW⟩⟩)
        · refine gj_aload_n C dX3_become_104 rfl ?_
          refine gj_iload_n C dX3_become_105 rfl ?_
          refine gj_cV (As := [.int (nI j)]) (rest := []) (nc := 0) (ns := 0) C hV (k_Mgo l D cI cN cZ cJ f y _ nx _ ml ad _ isR r5 _ j hW hj) dX3_become_106 rfl w_409 rfl w_406 w_2 w_408 ws_17 hd_X3_go rfl hW.1.1 rfl ⟨Nat.le_of_ble_eq_true rfl, Nat.le_of_ble_eq_true rfl⟩ (Nat.le_of_ble_eq_true rfl) (by decide) (by decide) (fun v u hp => ?_)
          refine gj_rt (st' := []) hp.1 hp.2 rfl ?_
          refine gj_iload C dX3_become_109 rfl ?_
          refine gj_if_eqT (tgt := 118) C dX3_become_111 (by decide) rfl ?_
          refine gj_iconst (v := 1) C dX3_become_118 (by decide) ?_
          exact gj_iret C hr hlk dX3_become_119 (⟨congrArg (fun z => some (Value.int z)) (bI_tn (fun h => c3 h.2.symm)).symm, ⟨ad, _, isR, r5, by rw [plE_n c4]; have h9 := rpm_go (by rw [bx_uu, cn_same hei] at *; exact hW) hj hei1; rw [bx_uu, bx_uu] at h9; rw [cn_same hei] at h9; exact h9⟩⟩)
      · refine gj_iconst (v := 1) C dX3_become_54 (by decide) ?_
        refine gj_goto (tgt := 59) C dX3_become_55 (by decide) ?_
        refine gj_istore (lw' := [some (.ref y), some (.int (nI j)), some (.int (bI false)), some (.int a), some (.int b), some (.int 1)]) C dX3_become_59 (by decide) rfl rfl ?_
        refine gj_iload_n C dX3_become_61 rfl ?_
        refine gj_if_eqT (tgt := 83) C dX3_become_62 (by decide) rfl ?_
        refine gj_aload_n C dX3_become_83 rfl ?_
        refine gj_get C dX3_become_84 hW.1.1 rfl inX3 3 (by decide) w_332 rfl ?_
        refine gj_iload_n C dX3_become_87 rfl ?_
        refine gj_iload_n C dX3_become_88 rfl ?_
        refine gj_iastN C 0 dX3_become_89 (hW.1.2.2 2 (by decide) (by decide)) rfl hj (by decide) ?_
        have hW := rpm_st hW hj hei 2 (by decide) (by decide) a
        have hei1 := va_up_self en j (some (setk 2 a e0))
        generalize gm_up f (ad 2) (.inl (cI, 4096, .inl (upd (ga 2) j a))) = f at hW ⊢
        generalize va_up ga 2 (upd (ga 2) j a) = ga at hW
        refine gj_aload_n C dX3_become_90 rfl ?_
        refine gj_get C dX3_become_91 hW.1.1 rfl inX3 5 (by decide) w_334 rfl ?_
        refine gj_iload_n C dX3_become_94 rfl ?_
        refine gj_iload C dX3_become_95 rfl ?_
        refine gj_iastN C 0 dX3_become_97 (hW.1.2.2 4 (by decide) (by decide)) rfl hj (by decide) ?_
        have hW := rpm_st hW hj hei1 4 (by decide) (by decide) b
        have hei1 := va_up_self (va_up en j (some (setk 2 a e0))) j (some (setk 4 b (setk 2 a e0)))
        generalize gm_up f (ad 4) (.inl (cI, 4096, .inl (upd (ga 4) j b))) = f at hW ⊢
        generalize va_up ga 4 (upd (ga 4) j b) = ga at hW
        refine gj_iload_n C dX3_become_98 rfl ?_
        refine gj_iload C dX3_become_99 rfl ?_
        refine gj_icmp_le (tgt := 109) C dX3_become_101 (by decide) (fun c5 => ?_) (fun c5 => ?_)
        · refine gj_iload C dX3_become_109 rfl ?_
          refine gj_if_eqF (tgt := 118) C dX3_become_111 (by decide) (by decide) ?_
          refine gj_iconst (v := 0) C dX3_become_114 (by decide) ?_
          refine gj_goto (tgt := 119) C dX3_become_115 (by decide) ?_
          exact gj_iret C hr hlk dX3_become_119 (⟨congrArg (fun z => some (Value.int z)) (bI_fn ⟨c1.symm, c3.symm⟩).symm, ⟨ad, ga, isR, r5, by rw [plE_s c5, cn_same hei]; rw [bx_uu] at hW; exact hW⟩⟩)
        · refine gj_aload_n C dX3_become_104 rfl ?_
          refine gj_iload_n C dX3_become_105 rfl ?_
          refine gj_cV (As := [.int (nI j)]) (rest := []) (nc := 0) (ns := 0) C hV (k_Mgo l D cI cN cZ cJ f y _ nx _ ml ad _ isR r5 _ j hW hj) dX3_become_106 rfl w_409 rfl w_406 w_2 w_408 ws_17 hd_X3_go rfl hW.1.1 rfl ⟨Nat.le_of_ble_eq_true rfl, Nat.le_of_ble_eq_true rfl⟩ (Nat.le_of_ble_eq_true rfl) (by decide) (by decide) (fun v u hp => ?_)
          refine gj_rt (st' := []) hp.1 hp.2 rfl ?_
          refine gj_iload C dX3_become_109 rfl ?_
          refine gj_if_eqF (tgt := 118) C dX3_become_111 (by decide) (by decide) ?_
          refine gj_iconst (v := 0) C dX3_become_114 (by decide) ?_
          refine gj_goto (tgt := 119) C dX3_become_115 (by decide) ?_
          exact gj_iret C hr hlk dX3_become_119 (⟨congrArg (fun z => some (Value.int z)) (bI_fn ⟨c1.symm, c3.symm⟩).symm, ⟨ad, _, isR, r5, by rw [plE_n c5]; have h9 := rpm_go (by rw [bx_uu, cn_same hei] at *; exact hW) hj hei1; rw [bx_uu, bx_uu] at h9; rw [cn_same hei] at h9; exact h9⟩⟩)
  · refine gj_iload_n C dX3_become_0 rfl ?_
    refine gj_if_eqF (tgt := 33) C dX3_become_1 (by decide) (by decide) ?_
    refine gj_aload_n C dX3_become_4 rfl ?_
    refine gj_get C dX3_become_5 hW.1.1 rfl inX3 4 (by decide) w_333 rfl ?_
    refine gj_iload_n C dX3_become_8 rfl ?_
    refine gj_ialdN C 0 dX3_become_9 (hW.1.2.2 3 (by decide) (by decide)) rfl hj (by decide) ?_
    refine gj_st (st' := [.int e0.1.2.2.1]) (by rw [g3]) ?_
    refine gj_iload_n C dX3_become_10 rfl ?_
    refine gj_icmp_ne (tgt := 29) C dX3_become_11 (by decide) (fun c6 => ?_) (fun c6 => ?_)
    · refine gj_iconst (v := 0) C dX3_become_29 (by decide) ?_
      refine gj_goto (tgt := 59) C dX3_become_30 (by decide) ?_
      refine gj_istore (lw' := [some (.ref y), some (.int (nI j)), some (.int (bI true)), some (.int a), some (.int b), some (.int 0)]) C dX3_become_59 (by decide) rfl rfl ?_
      refine gj_iload_n C dX3_become_61 rfl ?_
      refine gj_if_eqF (tgt := 83) C dX3_become_62 (by decide) (by decide) ?_
      refine gj_aload_n C dX3_become_65 rfl ?_
      refine gj_get C dX3_become_66 hW.1.1 rfl inX3 4 (by decide) w_333 rfl ?_
      refine gj_iload_n C dX3_become_69 rfl ?_
      refine gj_iload_n C dX3_become_70 rfl ?_
      refine gj_iastN C 0 dX3_become_71 (hW.1.2.2 3 (by decide) (by decide)) rfl hj (by decide) ?_
      have hW := rpm_st hW hj hei 3 (by decide) (by decide) a
      have hei1 := va_up_self en j (some (setk 3 a e0))
      generalize gm_up f (ad 3) (.inl (cI, 4096, .inl (upd (ga 3) j a))) = f at hW ⊢
      generalize va_up ga 3 (upd (ga 3) j a) = ga at hW
      refine gj_aload_n C dX3_become_72 rfl ?_
      refine gj_get C dX3_become_73 hW.1.1 rfl inX3 6 (by decide) w_335 rfl ?_
      refine gj_iload_n C dX3_become_76 rfl ?_
      refine gj_iload C dX3_become_77 rfl ?_
      refine gj_iastN C 0 dX3_become_79 (hW.1.2.2 5 (by decide) (by decide)) rfl hj (by decide) ?_
      have hW := rpm_st hW hj hei1 5 (by decide) (by decide) b
      have hei1 := va_up_self (va_up en j (some (setk 3 a e0))) j (some (setk 5 b (setk 3 a e0)))
      generalize gm_up f (ad 5) (.inl (cI, 4096, .inl (upd (ga 5) j b))) = f at hW ⊢
      generalize va_up ga 5 (upd (ga 5) j b) = ga at hW
      refine gj_goto (tgt := 98) C dX3_become_80 (by decide) ?_
      refine gj_iload_n C dX3_become_98 rfl ?_
      refine gj_iload C dX3_become_99 rfl ?_
      refine gj_icmp_le (tgt := 109) C dX3_become_101 (by decide) (fun c7 => ?_) (fun c7 => ?_)
      · refine gj_iload C dX3_become_109 rfl ?_
        refine gj_if_eqT (tgt := 118) C dX3_become_111 (by decide) rfl ?_
        refine gj_iconst (v := 1) C dX3_become_118 (by decide) ?_
        exact gj_iret C hr hlk dX3_become_119 (⟨congrArg (fun z => some (Value.int z)) (bI_tn (fun h => c6 h.1.symm)).symm, ⟨ad, ga, isR, r5, by rw [plE_s c7, cn_same hei]; rw [bx_uu] at hW; exact hW⟩⟩)
      · refine gj_aload_n C dX3_become_104 rfl ?_
        refine gj_iload_n C dX3_become_105 rfl ?_
        refine gj_cV (As := [.int (nI j)]) (rest := []) (nc := 0) (ns := 0) C hV (k_Mgo l D cI cN cZ cJ f y _ nx _ ml ad _ isR r5 _ j hW hj) dX3_become_106 rfl w_409 rfl w_406 w_2 w_408 ws_17 hd_X3_go rfl hW.1.1 rfl ⟨Nat.le_of_ble_eq_true rfl, Nat.le_of_ble_eq_true rfl⟩ (Nat.le_of_ble_eq_true rfl) (by decide) (by decide) (fun v u hp => ?_)
        refine gj_rt (st' := []) hp.1 hp.2 rfl ?_
        refine gj_iload C dX3_become_109 rfl ?_
        refine gj_if_eqT (tgt := 118) C dX3_become_111 (by decide) rfl ?_
        refine gj_iconst (v := 1) C dX3_become_118 (by decide) ?_
        exact gj_iret C hr hlk dX3_become_119 (⟨congrArg (fun z => some (Value.int z)) (bI_tn (fun h => c6 h.1.symm)).symm, ⟨ad, _, isR, r5, by rw [plE_n c7]; have h9 := rpm_go (by rw [bx_uu, cn_same hei] at *; exact hW) hj hei1; rw [bx_uu, bx_uu] at h9; rw [cn_same hei] at h9; exact h9⟩⟩)
    · refine gj_aload_n C dX3_become_14 rfl ?_
      refine gj_get C dX3_become_15 hW.1.1 rfl inX3 6 (by decide) w_335 rfl ?_
      refine gj_iload_n C dX3_become_18 rfl ?_
      refine gj_ialdN C 0 dX3_become_19 (hW.1.2.2 5 (by decide) (by decide)) rfl hj (by decide) ?_
      refine gj_st (st' := [.int e0.1.2.2.2.2]) (by rw [g5]) ?_
      refine gj_iload C dX3_become_20 rfl ?_
      refine gj_icmp_ne (tgt := 29) C dX3_become_22 (by decide) (fun c8 => ?_) (fun c8 => ?_)
      · refine gj_iconst (v := 0) C dX3_become_29 (by decide) ?_
        refine gj_goto (tgt := 59) C dX3_become_30 (by decide) ?_
        refine gj_istore (lw' := [some (.ref y), some (.int (nI j)), some (.int (bI true)), some (.int a), some (.int b), some (.int 0)]) C dX3_become_59 (by decide) rfl rfl ?_
        refine gj_iload_n C dX3_become_61 rfl ?_
        refine gj_if_eqF (tgt := 83) C dX3_become_62 (by decide) (by decide) ?_
        refine gj_aload_n C dX3_become_65 rfl ?_
        refine gj_get C dX3_become_66 hW.1.1 rfl inX3 4 (by decide) w_333 rfl ?_
        refine gj_iload_n C dX3_become_69 rfl ?_
        refine gj_iload_n C dX3_become_70 rfl ?_
        refine gj_iastN C 0 dX3_become_71 (hW.1.2.2 3 (by decide) (by decide)) rfl hj (by decide) ?_
        have hW := rpm_st hW hj hei 3 (by decide) (by decide) a
        have hei1 := va_up_self en j (some (setk 3 a e0))
        generalize gm_up f (ad 3) (.inl (cI, 4096, .inl (upd (ga 3) j a))) = f at hW ⊢
        generalize va_up ga 3 (upd (ga 3) j a) = ga at hW
        refine gj_aload_n C dX3_become_72 rfl ?_
        refine gj_get C dX3_become_73 hW.1.1 rfl inX3 6 (by decide) w_335 rfl ?_
        refine gj_iload_n C dX3_become_76 rfl ?_
        refine gj_iload C dX3_become_77 rfl ?_
        refine gj_iastN C 0 dX3_become_79 (hW.1.2.2 5 (by decide) (by decide)) rfl hj (by decide) ?_
        have hW := rpm_st hW hj hei1 5 (by decide) (by decide) b
        have hei1 := va_up_self (va_up en j (some (setk 3 a e0))) j (some (setk 5 b (setk 3 a e0)))
        generalize gm_up f (ad 5) (.inl (cI, 4096, .inl (upd (ga 5) j b))) = f at hW ⊢
        generalize va_up ga 5 (upd (ga 5) j b) = ga at hW
        refine gj_goto (tgt := 98) C dX3_become_80 (by decide) ?_
        refine gj_iload_n C dX3_become_98 rfl ?_
        refine gj_iload C dX3_become_99 rfl ?_
        refine gj_icmp_le (tgt := 109) C dX3_become_101 (by decide) (fun c9 => ?_) (fun c9 => ?_)
        · refine gj_iload C dX3_become_109 rfl ?_
          refine gj_if_eqT (tgt := 118) C dX3_become_111 (by decide) rfl ?_
          refine gj_iconst (v := 1) C dX3_become_118 (by decide) ?_
          exact gj_iret C hr hlk dX3_become_119 (⟨congrArg (fun z => some (Value.int z)) (bI_tn (fun h => c8 h.2.symm)).symm, ⟨ad, ga, isR, r5, by rw [plE_s c9, cn_same hei]; rw [bx_uu] at hW; exact hW⟩⟩)
        · refine gj_aload_n C dX3_become_104 rfl ?_
          refine gj_iload_n C dX3_become_105 rfl ?_
          refine gj_cV (As := [.int (nI j)]) (rest := []) (nc := 0) (ns := 0) C hV (k_Mgo l D cI cN cZ cJ f y _ nx _ ml ad _ isR r5 _ j hW hj) dX3_become_106 rfl w_409 rfl w_406 w_2 w_408 ws_17 hd_X3_go rfl hW.1.1 rfl ⟨Nat.le_of_ble_eq_true rfl, Nat.le_of_ble_eq_true rfl⟩ (Nat.le_of_ble_eq_true rfl) (by decide) (by decide) (fun v u hp => ?_)
          refine gj_rt (st' := []) hp.1 hp.2 rfl ?_
          refine gj_iload C dX3_become_109 rfl ?_
          refine gj_if_eqT (tgt := 118) C dX3_become_111 (by decide) rfl ?_
          refine gj_iconst (v := 1) C dX3_become_118 (by decide) ?_
          exact gj_iret C hr hlk dX3_become_119 (⟨congrArg (fun z => some (Value.int z)) (bI_tn (fun h => c8 h.2.symm)).symm, ⟨ad, _, isR, r5, by rw [plE_n c9]; have h9 := rpm_go (by rw [bx_uu, cn_same hei] at *; exact hW) hj hei1; rw [bx_uu, bx_uu] at h9; rw [cn_same hei] at h9; exact h9⟩⟩)
      · refine gj_iconst (v := 1) C dX3_become_25 (by decide) ?_
        refine gj_goto (tgt := 59) C dX3_become_26 (by decide) ?_
        refine gj_istore (lw' := [some (.ref y), some (.int (nI j)), some (.int (bI true)), some (.int a), some (.int b), some (.int 1)]) C dX3_become_59 (by decide) rfl rfl ?_
        refine gj_iload_n C dX3_become_61 rfl ?_
        refine gj_if_eqF (tgt := 83) C dX3_become_62 (by decide) (by decide) ?_
        refine gj_aload_n C dX3_become_65 rfl ?_
        refine gj_get C dX3_become_66 hW.1.1 rfl inX3 4 (by decide) w_333 rfl ?_
        refine gj_iload_n C dX3_become_69 rfl ?_
        refine gj_iload_n C dX3_become_70 rfl ?_
        refine gj_iastN C 0 dX3_become_71 (hW.1.2.2 3 (by decide) (by decide)) rfl hj (by decide) ?_
        have hW := rpm_st hW hj hei 3 (by decide) (by decide) a
        have hei1 := va_up_self en j (some (setk 3 a e0))
        generalize gm_up f (ad 3) (.inl (cI, 4096, .inl (upd (ga 3) j a))) = f at hW ⊢
        generalize va_up ga 3 (upd (ga 3) j a) = ga at hW
        refine gj_aload_n C dX3_become_72 rfl ?_
        refine gj_get C dX3_become_73 hW.1.1 rfl inX3 6 (by decide) w_335 rfl ?_
        refine gj_iload_n C dX3_become_76 rfl ?_
        refine gj_iload C dX3_become_77 rfl ?_
        refine gj_iastN C 0 dX3_become_79 (hW.1.2.2 5 (by decide) (by decide)) rfl hj (by decide) ?_
        have hW := rpm_st hW hj hei1 5 (by decide) (by decide) b
        have hei1 := va_up_self (va_up en j (some (setk 3 a e0))) j (some (setk 5 b (setk 3 a e0)))
        generalize gm_up f (ad 5) (.inl (cI, 4096, .inl (upd (ga 5) j b))) = f at hW ⊢
        generalize va_up ga 5 (upd (ga 5) j b) = ga at hW
        refine gj_goto (tgt := 98) C dX3_become_80 (by decide) ?_
        refine gj_iload_n C dX3_become_98 rfl ?_
        refine gj_iload C dX3_become_99 rfl ?_
        refine gj_icmp_le (tgt := 109) C dX3_become_101 (by decide) (fun c10 => ?_) (fun c10 => ?_)
        · refine gj_iload C dX3_become_109 rfl ?_
          refine gj_if_eqF (tgt := 118) C dX3_become_111 (by decide) (by decide) ?_
          refine gj_iconst (v := 0) C dX3_become_114 (by decide) ?_
          refine gj_goto (tgt := 119) C dX3_become_115 (by decide) ?_
          exact gj_iret C hr hlk dX3_become_119 (⟨congrArg (fun z => some (Value.int z)) (bI_fn ⟨c6.symm, c8.symm⟩).symm, ⟨ad, ga, isR, r5, by rw [plE_s c10, cn_same hei]; rw [bx_uu] at hW; exact hW⟩⟩)
        · refine gj_aload_n C dX3_become_104 rfl ?_
          refine gj_iload_n C dX3_become_105 rfl ?_
          refine gj_cV (As := [.int (nI j)]) (rest := []) (nc := 0) (ns := 0) C hV (k_Mgo l D cI cN cZ cJ f y _ nx _ ml ad _ isR r5 _ j hW hj) dX3_become_106 rfl w_409 rfl w_406 w_2 w_408 ws_17 hd_X3_go rfl hW.1.1 rfl ⟨Nat.le_of_ble_eq_true rfl, Nat.le_of_ble_eq_true rfl⟩ (Nat.le_of_ble_eq_true rfl) (by decide) (by decide) (fun v u hp => ?_)
          refine gj_rt (st' := []) hp.1 hp.2 rfl ?_
          refine gj_iload C dX3_become_109 rfl ?_
          refine gj_if_eqF (tgt := 118) C dX3_become_111 (by decide) (by decide) ?_
          refine gj_iconst (v := 0) C dX3_become_114 (by decide) ?_
          refine gj_goto (tgt := 119) C dX3_become_115 (by decide) ?_
          exact gj_iret C hr hlk dX3_become_119 (⟨congrArg (fun z => some (Value.int z)) (bI_fn ⟨c6.symm, c8.symm⟩).symm, ⟨ad, _, isR, r5, by rw [plE_n c10]; have h9 := rpm_go (by rw [bx_uu, cn_same hei] at *; exact hW) hj hei1; rw [bx_uu, bx_uu] at h9; rw [cn_same hei] at h9; exact h9⟩⟩)
set_option maxRecDepth 100000 in
set_option maxHeartbeats 4000000 in
theorem k_Mcount (l : Launch) (D : va_G) (cI cN cZ cJ : ClassId) (f : gm) (y : Nat) (cd : Int32) (nx : Option Rc) (en : Nat → Option En) (ml : List Nat) (hR : RpM cI cZ f y cd nx en ml) : gk l yX3_count (.code yX3_count cX3_count 1 (Option.some Jvm.ClassFile.FieldType.int)) (rmk 0 0 0) D (tyl cI cN cZ cJ) [.ref y] f (fun v u => v = some (.int (nI (cn en 4096))) ∧ RpM cI cZ u y 0 nx en ml) := by
  refine gk_of [some (.ref y)] (by decide) rfl (Nat.le_of_ble_eq_true rfl) rfl ?_
  intro p e s m args below meth c A C hV hr hlk hnm
  obtain ⟨ad, ga, isR, r5, hW⟩ := hR
  refine gj_aload_n C dX3_count_0 rfl ?_
  refine gj_iconst (v := 0) C dX3_count_1 (by decide) ?_
  refine gj_put C dX3_count_2 hW.1.1 rfl inX3 tyX3_ok nmX3 0 (by decide) w_329 rfl rfl rfl (Nat.le_of_ble_eq_true rfl) ?_
  refine gj_f (f' := gm_up f y (cMo 0 ad (nI (cn en 4096)) isR r5 (nI ml.length))) rfl ?_
  have hW := rpm_cd hW 0 (nI (cn en 4096))
  generalize gm_up f y (cMo 0 ad (nI (cn en 4096)) isR r5 (nI ml.length)) = f at hW ⊢
  refine gj_aload_n C dX3_count_5 rfl ?_
  refine gj_get C dX3_count_6 hW.1.1 rfl inX3 8 (by decide) w_337 rfl ?_
  exact gj_iret C hr hlk dX3_count_9 (⟨rfl, ⟨ad, ga, isR, r5, hW⟩⟩)
set_option maxRecDepth 100000 in
set_option maxHeartbeats 4000000 in
theorem k_Mremove (l : Launch) (D : va_G) (cI cN cZ cJ : ClassId) (f : gm) (y : Nat) (cd : Int32) (nx : Option Rc) (en : Nat → Option En) (ml : List Nat) (num : Int32) (hR : RpM cI cZ f y cd nx en ml) : gk l yX3_remove (.code yX3_remove cX3_remove 2 (Option.some Jvm.ClassFile.FieldType.boolean)) (rmk 1 0 0) D (tyl cI cN cZ cJ) [.ref y, .int num] f (fun v u => v = some (.int (bI (thr en num))) ∧ RpM cI cZ u y 0 nx (rmE en num) ml) := by
  refine gk_of [some (.ref y), some (.int num)] (by decide) rfl (Nat.le_of_ble_eq_true rfl) rfl ?_
  intro p e s m args below meth c A C hV hr hlk hnm
  obtain ⟨ad, ga, isR, r5, hW⟩ := hR
  refine gj_aload_n C dX3_remove_0 rfl ?_
  refine gj_iconst (v := 0) C dX3_remove_1 (by decide) ?_
  refine gj_put C dX3_remove_2 hW.1.1 rfl inX3 tyX3_ok nmX3 0 (by decide) w_329 rfl rfl rfl (Nat.le_of_ble_eq_true rfl) ?_
  refine gj_f (f' := gm_up f y (cMo 0 ad (nI (cn en 4096)) isR r5 (nI ml.length))) rfl ?_
  have hW := rpm_cd hW 0 (nI (cn en 4096))
  generalize gm_up f y (cMo 0 ad (nI (cn en 4096)) isR r5 (nI ml.length)) = f at hW ⊢
  refine gj_aload_n C dX3_remove_5 rfl ?_
  refine gj_iload_n C dX3_remove_6 rfl ?_
  refine gj_cV (As := [.int num]) (rest := []) (nc := 0) (ns := 0) C hV (k_MisThere l D cI cN cZ cJ f y _ nx en ml ad ga isR r5 _ num hW) dX3_remove_7 rfl w_405 rfl w_402 w_2 w_404 ws_16 hd_X3_isThere rfl hW.1.1 rfl ⟨Nat.le_of_ble_eq_true rfl, Nat.le_of_ble_eq_true rfl⟩ (Nat.le_of_ble_eq_true rfl) (by decide) (by decide) (fun v u hp1 => ?_)
  refine gj_rt (st' := [.int (bI (thr en num))]) hp1.1 hp1.2 rfl ?_
  refine gj_if_ne (tgt := 15) C dX3_remove_10 (by decide) (fun c2 => ?_) (fun c2 => ?_)
  · obtain ⟨j, e0, hj, rfl, hei⟩ := thr_ex (bI_b1 c2) hW.2.2.2.2.1
    refine gj_aload_n C dX3_remove_15 rfl ?_
    refine gj_iload_n C dX3_remove_16 rfl ?_
    refine gj_cV (As := [.int (nI j)]) (rest := []) (nc := 0) (ns := 0) C hV (k_Mgo l D cI cN cZ cJ f y _ nx _ ml ad _ isR r5 _ j hW hj) dX3_remove_17 rfl w_409 rfl w_406 w_2 w_408 ws_17 hd_X3_go rfl hW.1.1 rfl ⟨Nat.le_of_ble_eq_true rfl, Nat.le_of_ble_eq_true rfl⟩ (Nat.le_of_ble_eq_true rfl) (by decide) (by decide) (fun v u hp => ?_)
    refine gj_rt (st' := []) hp.1 hp.2 rfl ?_
    refine gj_iconst (v := 1) C dX3_remove_20 (by decide) ?_
    exact gj_zret C hr hlk dX3_remove_21 nz_1 (⟨by rw [bI_b1 c2] <;> rfl, by rw [rmE_nI (by omega) hei]; exact ⟨ad, _, isR, r5, rpm_go hW hj hei⟩⟩)
  · refine gj_iconst (v := 0) C dX3_remove_13 (by decide) ?_
    exact gj_zret C hr hlk dX3_remove_14 nz_0 (⟨by rw [bI_b0 c2] <;> rfl, by rw [rmE_f (bI_b0 c2)]; exact ⟨ad, ga, isR, r5, hW⟩⟩)
set_option maxRecDepth 100000 in
set_option maxHeartbeats 4000000 in
theorem k_Mentry (l : Launch) (D : va_G) (cI cN cZ cJ : ClassId) (f : gm) (y : Nat) (cd : Int32) (nx : Option Rc) (en : Nat → Option En) (ml : List Nat) (num wh : Int32) (hR : RpM cI cZ f y cd nx en ml) : gk l yX3_entry (.code yX3_entry cX3_entry 3 (Option.some Jvm.ClassFile.FieldType.int)) (rmk 1 0 0) D (tyl cI cN cZ cJ) [.ref y, .int num, .int wh] f (fun v u => v = some (.int (enA en num wh)) ∧ RpM cI cZ u y 0 nx en ml) := by
  refine gk_of [some (.ref y), some (.int num), some (.int wh)] (by decide) rfl (Nat.le_of_ble_eq_true rfl) rfl ?_
  intro p e s m args below meth c A C hV hr hlk hnm
  obtain ⟨ad, ga, isR, r5, hW⟩ := hR
  refine gj_aload_n C dX3_entry_0 rfl ?_
  refine gj_iconst (v := 0) C dX3_entry_1 (by decide) ?_
  refine gj_put C dX3_entry_2 hW.1.1 rfl inX3 tyX3_ok nmX3 0 (by decide) w_329 rfl rfl rfl (Nat.le_of_ble_eq_true rfl) ?_
  refine gj_f (f' := gm_up f y (cMo 0 ad (nI (cn en 4096)) isR r5 (nI ml.length))) rfl ?_
  have hW := rpm_cd hW 0 (nI (cn en 4096))
  generalize gm_up f y (cMo 0 ad (nI (cn en 4096)) isR r5 (nI ml.length)) = f at hW ⊢
  refine gj_aload_n C dX3_entry_5 rfl ?_
  refine gj_iload_n C dX3_entry_6 rfl ?_
  refine gj_cV (As := [.int num]) (rest := []) (nc := 0) (ns := 0) C hV (k_MisThere l D cI cN cZ cJ f y _ nx en ml ad ga isR r5 _ num hW) dX3_entry_7 rfl w_405 rfl w_402 w_2 w_404 ws_16 hd_X3_isThere rfl hW.1.1 rfl ⟨Nat.le_of_ble_eq_true rfl, Nat.le_of_ble_eq_true rfl⟩ (Nat.le_of_ble_eq_true rfl) (by decide) (by decide) (fun v u hp1 => ?_)
  refine gj_rt (st' := [.int (bI (thr en num))]) hp1.1 hp1.2 rfl ?_
  refine gj_if_ne (tgt := 15) C dX3_entry_10 (by decide) (fun c2 => ?_) (fun c2 => ?_)
  · obtain ⟨j, e0, hj, rfl, hei⟩ := thr_ex (bI_b1 c2) hW.2.2.2.2.1
    obtain ⟨g0, g1, g2, g3, g4, g5, g6⟩ := rpm_at hW hj hei
    refine gj_iload_n C dX3_entry_15 rfl ?_
    rcases sw6 wh with rfl | rfl | rfl | rfl | rfl | rfl | hw
    · refine gj_tabIn (off := 40) (tgt := 56) C dX3_entry_16 (by decide) (by decide) (by decide) (by decide) ?_
      refine gj_aload_n C dX3_entry_56 rfl ?_
      refine gj_get C dX3_entry_57 hW.1.1 rfl inX3 2 (by decide) w_331 rfl ?_
      refine gj_iload_n C dX3_entry_60 rfl ?_
      refine gj_ialdN C 0 dX3_entry_61 (hW.1.2.2 1 (by decide) (by decide)) rfl hj (by decide) ?_
      refine gj_st (st' := [.int e0.1.1]) (by rw [g1]) ?_
      exact gj_iret C hr hlk dX3_entry_62 (⟨by rw [enA_nI (by omega) hei]; rfl, ⟨ad, ga, isR, r5, hW⟩⟩)
    · refine gj_tabIn (off := 47) (tgt := 63) C dX3_entry_16 (by decide) (by decide) (by decide) (by decide) ?_
      refine gj_aload_n C dX3_entry_63 rfl ?_
      refine gj_get C dX3_entry_64 hW.1.1 rfl inX3 3 (by decide) w_332 rfl ?_
      refine gj_iload_n C dX3_entry_67 rfl ?_
      refine gj_ialdN C 0 dX3_entry_68 (hW.1.2.2 2 (by decide) (by decide)) rfl hj (by decide) ?_
      refine gj_st (st' := [.int e0.1.2.1]) (by rw [g2]) ?_
      exact gj_iret C hr hlk dX3_entry_69 (⟨by rw [enA_nI (by omega) hei]; rfl, ⟨ad, ga, isR, r5, hW⟩⟩)
    · refine gj_tabIn (off := 54) (tgt := 70) C dX3_entry_16 (by decide) (by decide) (by decide) (by decide) ?_
      refine gj_aload_n C dX3_entry_70 rfl ?_
      refine gj_get C dX3_entry_71 hW.1.1 rfl inX3 4 (by decide) w_333 rfl ?_
      refine gj_iload_n C dX3_entry_74 rfl ?_
      refine gj_ialdN C 0 dX3_entry_75 (hW.1.2.2 3 (by decide) (by decide)) rfl hj (by decide) ?_
      refine gj_st (st' := [.int e0.1.2.2.1]) (by rw [g3]) ?_
      exact gj_iret C hr hlk dX3_entry_76 (⟨by rw [enA_nI (by omega) hei]; rfl, ⟨ad, ga, isR, r5, hW⟩⟩)
    · refine gj_tabIn (off := 61) (tgt := 77) C dX3_entry_16 (by decide) (by decide) (by decide) (by decide) ?_
      refine gj_aload_n C dX3_entry_77 rfl ?_
      refine gj_get C dX3_entry_78 hW.1.1 rfl inX3 5 (by decide) w_334 rfl ?_
      refine gj_iload_n C dX3_entry_81 rfl ?_
      refine gj_ialdN C 0 dX3_entry_82 (hW.1.2.2 4 (by decide) (by decide)) rfl hj (by decide) ?_
      refine gj_st (st' := [.int e0.1.2.2.2.1]) (by rw [g4]) ?_
      exact gj_iret C hr hlk dX3_entry_83 (⟨by rw [enA_nI (by omega) hei]; rfl, ⟨ad, ga, isR, r5, hW⟩⟩)
    · refine gj_tabIn (off := 68) (tgt := 84) C dX3_entry_16 (by decide) (by decide) (by decide) (by decide) ?_
      refine gj_aload_n C dX3_entry_84 rfl ?_
      refine gj_get C dX3_entry_85 hW.1.1 rfl inX3 6 (by decide) w_335 rfl ?_
      refine gj_iload_n C dX3_entry_88 rfl ?_
      refine gj_ialdN C 0 dX3_entry_89 (hW.1.2.2 5 (by decide) (by decide)) rfl hj (by decide) ?_
      refine gj_st (st' := [.int e0.1.2.2.2.2]) (by rw [g5]) ?_
      exact gj_iret C hr hlk dX3_entry_90 (⟨by rw [enA_nI (by omega) hei]; rfl, ⟨ad, ga, isR, r5, hW⟩⟩)
    · refine gj_tabIn (off := 75) (tgt := 91) C dX3_entry_16 (by decide) (by decide) (by decide) (by decide) ?_
      refine gj_aload_n C dX3_entry_91 rfl ?_
      refine gj_get C dX3_entry_92 hW.1.1 rfl inX3 7 (by decide) w_336 rfl ?_
      refine gj_iload_n C dX3_entry_95 rfl ?_
      refine gj_ialdN C 0 dX3_entry_96 (hW.1.2.2 6 (by decide) (by decide)) rfl hj (by decide) ?_
      refine gj_st (st' := [.int e0.2]) (by rw [g6]) ?_
      exact gj_iret C hr hlk dX3_entry_97 (⟨by rw [enA_nI (by omega) hei]; rfl, ⟨ad, ga, isR, r5, hW⟩⟩)
    · refine gj_tabOut (tgt := 98) C dX3_entry_16 hw (by decide) ?_
      refine gj_iconst (v := (-1)) C dX3_entry_98 (by decide) ?_
      exact gj_iret C hr hlk dX3_entry_99 (⟨by rw [enA_nI (by omega) hei, enV_out hw], ⟨ad, ga, isR, r5, hW⟩⟩)
  · refine gj_iconst (v := (-1)) C dX3_entry_13 (by decide) ?_
    exact gj_iret C hr hlk dX3_entry_14 (⟨by rw [enA_no (bI_b0 c2)], ⟨ad, ga, isR, r5, hW⟩⟩)
set_option maxRecDepth 100000 in
set_option maxHeartbeats 4000000 in
theorem k_Mmet (l : Launch) (D : va_G) (cI cN cZ cJ : ClassId) (f : gm) (y : Nat) (cd : Int32) (nx : Option Rc) (en : Nat → Option En) (ml : List Nat) (num : Int32) (hR : RpM cI cZ f y cd nx en ml) : gk l yX3_met (.code yX3_met cX3_met 2 (Option.some Jvm.ClassFile.FieldType.int)) (rmk 0 0 0) D (tyl cI cN cZ cJ) [.ref y, .int num] f (fun v u => v = some (.int (mtA ml num)) ∧ RpM cI cZ u y 0 nx en ml) := by
  refine gk_of [some (.ref y), some (.int num)] (by decide) rfl (Nat.le_of_ble_eq_true rfl) rfl ?_
  intro p e s m args below meth c A C hV hr hlk hnm
  obtain ⟨ad, ga, isR, r5, hW⟩ := hR
  have hl : ml.length ≤ 4096 := hW.2.2.2.2.2.1
  rcases pk_ix num (n := ml.length) (by omega) with hh | hh | ⟨j, hj, rfl⟩
  · refine gj_aload_n C dX3_met_0 rfl ?_
    refine gj_iconst (v := 0) C dX3_met_1 (by decide) ?_
    refine gj_put C dX3_met_2 hW.1.1 rfl inX3 tyX3_ok nmX3 0 (by decide) w_329 rfl rfl rfl (Nat.le_of_ble_eq_true rfl) ?_
    refine gj_f (f' := gm_up f y (cMo 0 ad (nI (cn en 4096)) isR r5 (nI ml.length))) rfl ?_
    have hW := rpm_cd hW 0 (nI (cn en 4096))
    generalize gm_up f y (cMo 0 ad (nI (cn en 4096)) isR r5 (nI ml.length)) = f at hW ⊢
    refine gj_iload_n C dX3_met_5 rfl ?_
    refine gj_if_ltT (tgt := 26) C dX3_met_6 (by decide) hh ?_
    refine gj_iconst (v := (-1)) C dX3_met_26 (by decide) ?_
    exact gj_iret C hr hlk dX3_met_27 (⟨by rw [mtA_neg hh], ⟨ad, ga, isR, r5, hW⟩⟩)
  · refine gj_aload_n C dX3_met_0 rfl ?_
    refine gj_iconst (v := 0) C dX3_met_1 (by decide) ?_
    refine gj_put C dX3_met_2 hW.1.1 rfl inX3 tyX3_ok nmX3 0 (by decide) w_329 rfl rfl rfl (Nat.le_of_ble_eq_true rfl) ?_
    refine gj_f (f' := gm_up f y (cMo 0 ad (nI (cn en 4096)) isR r5 (nI ml.length))) rfl ?_
    have hW := rpm_cd hW 0 (nI (cn en 4096))
    generalize gm_up f y (cMo 0 ad (nI (cn en 4096)) isR r5 (nI ml.length)) = f at hW ⊢
    refine gj_iload_n C dX3_met_5 rfl ?_
    refine gj_if_lt (tgt := 26) C dX3_met_6 (by decide) (fun c1 => ?_) (fun c1 => ?_)
    · refine gj_iconst (v := (-1)) C dX3_met_26 (by decide) ?_
      exact gj_iret C hr hlk dX3_met_27 (⟨by rw [mtA_ge (by omega) hh], ⟨ad, ga, isR, r5, hW⟩⟩)
    · refine gj_iload_n C dX3_met_9 rfl ?_
      refine gj_aload_n C dX3_met_10 rfl ?_
      refine gj_get C dX3_met_11 hW.1.1 rfl inX3 15 (by decide) w_344 rfl ?_
      refine gj_icmp_geT (tgt := 26) C dX3_met_14 (by decide) hh ?_
      refine gj_iconst (v := (-1)) C dX3_met_26 (by decide) ?_
      exact gj_iret C hr hlk dX3_met_27 (⟨by rw [mtA_ge (by omega) hh], ⟨ad, ga, isR, r5, hW⟩⟩)
  · refine gj_aload_n C dX3_met_0 rfl ?_
    refine gj_iconst (v := 0) C dX3_met_1 (by decide) ?_
    refine gj_put C dX3_met_2 hW.1.1 rfl inX3 tyX3_ok nmX3 0 (by decide) w_329 rfl rfl rfl (Nat.le_of_ble_eq_true rfl) ?_
    refine gj_f (f' := gm_up f y (cMo 0 ad (nI (cn en 4096)) isR r5 (nI ml.length))) rfl ?_
    have hW := rpm_cd hW 0 (nI (cn en 4096))
    generalize gm_up f y (cMo 0 ad (nI (cn en 4096)) isR r5 (nI ml.length)) = f at hW ⊢
    refine gj_iload_n C dX3_met_5 rfl ?_
    refine gj_if_ltF (tgt := 26) C dX3_met_6 (by decide) (nI_pos (by omega)) ?_
    refine gj_iload_n C dX3_met_9 rfl ?_
    refine gj_aload_n C dX3_met_10 rfl ?_
    refine gj_get C dX3_met_11 hW.1.1 rfl inX3 15 (by decide) w_344 rfl ?_
    refine gj_icmp_geF (tgt := 26) C dX3_met_14 (by decide) (nI_ge hj (by omega)) ?_
    refine gj_aload_n C dX3_met_17 rfl ?_
    refine gj_get C dX3_met_18 hW.1.1 rfl inX3 16 (by decide) w_345 rfl ?_
    refine gj_iload_n C dX3_met_21 rfl ?_
    refine gj_ialdN C 0 dX3_met_22 (hW.1.2.2 7 (by decide) (by decide)) rfl (by omega) (by decide) ?_
    refine gj_goto (tgt := 27) C dX3_met_23 (by decide) ?_
    exact gj_iret C hr hlk dX3_met_27 (⟨by rw [mtA_nI (by omega) hj, hW.2.2.2.2.2.2 j hj], ⟨ad, ga, isR, r5, hW⟩⟩)
set_option maxRecDepth 100000 in
set_option maxHeartbeats 4000000 in
theorem k_Mrectangle (l : Launch) (D : va_G) (cI cN cZ cJ : ClassId) (f : gm) (y : Nat) (cd : Int32) (nx : Option Rc) (en : Nat → Option En) (ml : List Nat) (sh tp lf bt rt : Int32) (hR : RpM cI cZ f y cd nx en ml) : gk l yX3_rectangle (.code yX3_rectangle cX3_rectangle 6 (Option.some Jvm.ClassFile.FieldType.boolean)) (rmk 1 0 0) D (tyl cI cN cZ cJ) [.ref y, .int sh, .int tp, .int lf, .int bt, .int rt] f (fun v u => v = some (.int (bI (decide (vr (sh, tp, lf, bt, rt))))) ∧ RpM cI cZ u y 0 (if vr (sh, tp, lf, bt, rt) then some (sh, tp, lf, bt, rt) else nx) en ml) := by
  refine gk_of [some (.ref y), some (.int sh), some (.int tp), some (.int lf), some (.int bt), some (.int rt)] (by decide) rfl (Nat.le_of_ble_eq_true rfl) rfl ?_
  intro p e s m args below meth c A C hV hr hlk hnm
  obtain ⟨ad, ga, isR, r5, hW⟩ := hR
  refine gj_aload_n C dX3_rectangle_0 rfl ?_
  refine gj_iconst (v := 0) C dX3_rectangle_1 (by decide) ?_
  refine gj_put C dX3_rectangle_2 hW.1.1 rfl inX3 tyX3_ok nmX3 0 (by decide) w_329 rfl rfl rfl (Nat.le_of_ble_eq_true rfl) ?_
  refine gj_f (f' := gm_up f y (cMo 0 ad (nI (cn en 4096)) isR r5 (nI ml.length))) rfl ?_
  have hW := rpm_cd hW 0 (nI (cn en 4096))
  generalize gm_up f y (cMo 0 ad (nI (cn en 4096)) isR r5 (nI ml.length)) = f at hW ⊢
  refine gj_iload_n C dX3_rectangle_5 rfl ?_
  refine gj_iconst (v := 0) C dX3_rectangle_6 (by decide) ?_
  refine gj_bipush (v := 7) C dX3_rectangle_7 (by decide) ?_
  refine gj_cS (As := [.int sh, .int 0, .int 7]) (rest := []) (nc := 0) (ns := 0) C hV (k_within l D (tyl cI cN cZ cJ) f sh 0 7) dX3_rectangle_9 rfl w_392 rfl w_390 w_2 w_391 hd_X3_within rfl ⟨Nat.le_of_ble_eq_true rfl, Nat.le_of_ble_eq_true rfl⟩ (Nat.le_of_ble_eq_true rfl) (by decide) (by decide) (fun v u hp1 => ?_)
  refine gj_rt (st' := [.int (bI (decide (wn sh 0 7)))]) hp1.1 hp1.2 rfl ?_
  refine gj_if_eq (tgt := 59) C dX3_rectangle_12 (by decide) (fun c2 => ?_) (fun c2 => ?_)
  · refine gj_iconst (v := 0) C dX3_rectangle_59 (by decide) ?_
    exact gj_zret C hr hlk dX3_rectangle_60 nz_0 (⟨by rw [bI_f (show ¬ vr (sh, tp, lf, bt, rt) from (by have qc2 := bI_p0 c2; revert qc2; simp only [i_le, i_lt, i_eq, t_0, t_1, t_5, t_7, t_8, t_16383, t_16384, t_32768, t_1048576, vs, vl, vc, vn, ll, rF, rL, rMeet, rIn, rY, if_true, if_false, Bool.false_eq_true, ite_true, ite_false, reduceIte, wn, vr]; (try intros); omega))], by rw [if_neg (show ¬ vr (sh, tp, lf, bt, rt) from (by have qc2 := bI_p0 c2; revert qc2; simp only [i_le, i_lt, i_eq, t_0, t_1, t_5, t_7, t_8, t_16383, t_16384, t_32768, t_1048576, vs, vl, vc, vn, ll, rF, rL, rMeet, rIn, rY, if_true, if_false, Bool.false_eq_true, ite_true, ite_false, reduceIte, wn, vr]; (try intros); omega))]; exact ⟨ad, ga, isR, r5, hW⟩⟩)
  · refine gj_iload_n C dX3_rectangle_15 rfl ?_
    refine gj_iconst (v := 1) C dX3_rectangle_16 (by decide) ?_
    refine gj_ldc (v := 1048576) C dX3_rectangle_17 w_393 ?_
    refine gj_cS (As := [.int tp, .int 1, .int 1048576]) (rest := []) (nc := 0) (ns := 0) C hV (k_within l D (tyl cI cN cZ cJ) f tp 1 1048576) dX3_rectangle_19 rfl w_392 rfl w_390 w_2 w_391 hd_X3_within rfl ⟨Nat.le_of_ble_eq_true rfl, Nat.le_of_ble_eq_true rfl⟩ (Nat.le_of_ble_eq_true rfl) (by decide) (by decide) (fun v u hp3 => ?_)
    refine gj_rt (st' := [.int (bI (decide (wn tp 1 1048576)))]) hp3.1 hp3.2 rfl ?_
    refine gj_if_eq (tgt := 59) C dX3_rectangle_22 (by decide) (fun c4 => ?_) (fun c4 => ?_)
    · refine gj_iconst (v := 0) C dX3_rectangle_59 (by decide) ?_
      exact gj_zret C hr hlk dX3_rectangle_60 nz_0 (⟨by rw [bI_f (show ¬ vr (sh, tp, lf, bt, rt) from (by have qc2 := bI_p1 c2; have qc4 := bI_p0 c4; revert qc2 qc4; simp only [i_le, i_lt, i_eq, t_0, t_1, t_5, t_7, t_8, t_16383, t_16384, t_32768, t_1048576, vs, vl, vc, vn, ll, rF, rL, rMeet, rIn, rY, if_true, if_false, Bool.false_eq_true, ite_true, ite_false, reduceIte, wn, vr]; (try intros); omega))], by rw [if_neg (show ¬ vr (sh, tp, lf, bt, rt) from (by have qc2 := bI_p1 c2; have qc4 := bI_p0 c4; revert qc2 qc4; simp only [i_le, i_lt, i_eq, t_0, t_1, t_5, t_7, t_8, t_16383, t_16384, t_32768, t_1048576, vs, vl, vc, vn, ll, rF, rL, rMeet, rIn, rY, if_true, if_false, Bool.false_eq_true, ite_true, ite_false, reduceIte, wn, vr]; (try intros); omega))]; exact ⟨ad, ga, isR, r5, hW⟩⟩)
    · refine gj_iload C dX3_rectangle_25 rfl ?_
      refine gj_iload_n C dX3_rectangle_27 rfl ?_
      refine gj_ldc (v := 1048576) C dX3_rectangle_28 w_393 ?_
      refine gj_cS (As := [.int bt, .int tp, .int 1048576]) (rest := []) (nc := 0) (ns := 0) C hV (k_within l D (tyl cI cN cZ cJ) f bt tp 1048576) dX3_rectangle_30 rfl w_392 rfl w_390 w_2 w_391 hd_X3_within rfl ⟨Nat.le_of_ble_eq_true rfl, Nat.le_of_ble_eq_true rfl⟩ (Nat.le_of_ble_eq_true rfl) (by decide) (by decide) (fun v u hp5 => ?_)
      refine gj_rt (st' := [.int (bI (decide (wn bt tp 1048576)))]) hp5.1 hp5.2 rfl ?_
      refine gj_if_eq (tgt := 59) C dX3_rectangle_33 (by decide) (fun c6 => ?_) (fun c6 => ?_)
      · refine gj_iconst (v := 0) C dX3_rectangle_59 (by decide) ?_
        exact gj_zret C hr hlk dX3_rectangle_60 nz_0 (⟨by rw [bI_f (show ¬ vr (sh, tp, lf, bt, rt) from (by have qc2 := bI_p1 c2; have qc4 := bI_p1 c4; have qc6 := bI_p0 c6; revert qc2 qc4 qc6; simp only [i_le, i_lt, i_eq, t_0, t_1, t_5, t_7, t_8, t_16383, t_16384, t_32768, t_1048576, vs, vl, vc, vn, ll, rF, rL, rMeet, rIn, rY, if_true, if_false, Bool.false_eq_true, ite_true, ite_false, reduceIte, wn, vr]; (try intros); omega))], by rw [if_neg (show ¬ vr (sh, tp, lf, bt, rt) from (by have qc2 := bI_p1 c2; have qc4 := bI_p1 c4; have qc6 := bI_p0 c6; revert qc2 qc4 qc6; simp only [i_le, i_lt, i_eq, t_0, t_1, t_5, t_7, t_8, t_16383, t_16384, t_32768, t_1048576, vs, vl, vc, vn, ll, rF, rL, rMeet, rIn, rY, if_true, if_false, Bool.false_eq_true, ite_true, ite_false, reduceIte, wn, vr]; (try intros); omega))]; exact ⟨ad, ga, isR, r5, hW⟩⟩)
      · refine gj_iload_n C dX3_rectangle_36 rfl ?_
        refine gj_iconst (v := 1) C dX3_rectangle_37 (by decide) ?_
        refine gj_sipush (v := 16384) C dX3_rectangle_38 (by decide) ?_
        refine gj_cS (As := [.int lf, .int 1, .int 16384]) (rest := []) (nc := 0) (ns := 0) C hV (k_within l D (tyl cI cN cZ cJ) f lf 1 16384) dX3_rectangle_41 rfl w_392 rfl w_390 w_2 w_391 hd_X3_within rfl ⟨Nat.le_of_ble_eq_true rfl, Nat.le_of_ble_eq_true rfl⟩ (Nat.le_of_ble_eq_true rfl) (by decide) (by decide) (fun v u hp7 => ?_)
        refine gj_rt (st' := [.int (bI (decide (wn lf 1 16384)))]) hp7.1 hp7.2 rfl ?_
        refine gj_if_eq (tgt := 59) C dX3_rectangle_44 (by decide) (fun c8 => ?_) (fun c8 => ?_)
        · refine gj_iconst (v := 0) C dX3_rectangle_59 (by decide) ?_
          exact gj_zret C hr hlk dX3_rectangle_60 nz_0 (⟨by rw [bI_f (show ¬ vr (sh, tp, lf, bt, rt) from (by have qc2 := bI_p1 c2; have qc4 := bI_p1 c4; have qc6 := bI_p1 c6; have qc8 := bI_p0 c8; revert qc2 qc4 qc6 qc8; simp only [i_le, i_lt, i_eq, t_0, t_1, t_5, t_7, t_8, t_16383, t_16384, t_32768, t_1048576, vs, vl, vc, vn, ll, rF, rL, rMeet, rIn, rY, if_true, if_false, Bool.false_eq_true, ite_true, ite_false, reduceIte, wn, vr]; (try intros); omega))], by rw [if_neg (show ¬ vr (sh, tp, lf, bt, rt) from (by have qc2 := bI_p1 c2; have qc4 := bI_p1 c4; have qc6 := bI_p1 c6; have qc8 := bI_p0 c8; revert qc2 qc4 qc6 qc8; simp only [i_le, i_lt, i_eq, t_0, t_1, t_5, t_7, t_8, t_16383, t_16384, t_32768, t_1048576, vs, vl, vc, vn, ll, rF, rL, rMeet, rIn, rY, if_true, if_false, Bool.false_eq_true, ite_true, ite_false, reduceIte, wn, vr]; (try intros); omega))]; exact ⟨ad, ga, isR, r5, hW⟩⟩)
        · refine gj_iload C dX3_rectangle_47 rfl ?_
          refine gj_iload_n C dX3_rectangle_49 rfl ?_
          refine gj_sipush (v := 16384) C dX3_rectangle_50 (by decide) ?_
          refine gj_cS (As := [.int rt, .int lf, .int 16384]) (rest := []) (nc := 0) (ns := 0) C hV (k_within l D (tyl cI cN cZ cJ) f rt lf 16384) dX3_rectangle_53 rfl w_392 rfl w_390 w_2 w_391 hd_X3_within rfl ⟨Nat.le_of_ble_eq_true rfl, Nat.le_of_ble_eq_true rfl⟩ (Nat.le_of_ble_eq_true rfl) (by decide) (by decide) (fun v u hp9 => ?_)
          refine gj_rt (st' := [.int (bI (decide (wn rt lf 16384)))]) hp9.1 hp9.2 rfl ?_
          refine gj_if_ne (tgt := 61) C dX3_rectangle_56 (by decide) (fun c10 => ?_) (fun c10 => ?_)
          · refine gj_aload_n C dX3_rectangle_61 rfl ?_
            refine gj_iload_n C dX3_rectangle_62 rfl ?_
            refine gj_put C dX3_rectangle_63 hW.1.1 rfl inX3 tyX3_ok nmX3 10 (by decide) w_339 rfl rfl rfl (Nat.le_of_ble_eq_true rfl) ?_
            refine gj_f (f' := (gm_up f y (.inr (3, [.int 0, .ref (ad 0), .ref (ad 1), .ref (ad 2), .ref (ad 3), .ref (ad 4), .ref (ad 5), .ref (ad 6), .int (nI (cn en 4096)), .int isR, .int sh, .int r5.2.1, .int r5.2.2.1, .int r5.2.2.2.1, .int r5.2.2.2.2, .int (nI ml.length), .ref (ad 7)])))) rfl ?_
            refine gj_aload_n C dX3_rectangle_66 rfl ?_
            refine gj_iload_n C dX3_rectangle_67 rfl ?_
            refine gj_put C dX3_rectangle_68 gm_up_self rfl inX3 tyX3_ok nmX3 11 (by decide) w_340 rfl rfl rfl (Nat.le_of_ble_eq_true rfl) ?_
            refine gj_f (f' := (gm_up f y (.inr (3, [.int 0, .ref (ad 0), .ref (ad 1), .ref (ad 2), .ref (ad 3), .ref (ad 4), .ref (ad 5), .ref (ad 6), .int (nI (cn en 4096)), .int isR, .int sh, .int tp, .int r5.2.2.1, .int r5.2.2.2.1, .int r5.2.2.2.2, .int (nI ml.length), .ref (ad 7)])))) (by rw [gm_up_up] <;> rfl) ?_
            refine gj_aload_n C dX3_rectangle_71 rfl ?_
            refine gj_iload_n C dX3_rectangle_72 rfl ?_
            refine gj_put C dX3_rectangle_73 gm_up_self rfl inX3 tyX3_ok nmX3 12 (by decide) w_341 rfl rfl rfl (Nat.le_of_ble_eq_true rfl) ?_
            refine gj_f (f' := (gm_up f y (.inr (3, [.int 0, .ref (ad 0), .ref (ad 1), .ref (ad 2), .ref (ad 3), .ref (ad 4), .ref (ad 5), .ref (ad 6), .int (nI (cn en 4096)), .int isR, .int sh, .int tp, .int lf, .int r5.2.2.2.1, .int r5.2.2.2.2, .int (nI ml.length), .ref (ad 7)])))) (by rw [gm_up_up] <;> rfl) ?_
            refine gj_aload_n C dX3_rectangle_76 rfl ?_
            refine gj_iload C dX3_rectangle_77 rfl ?_
            refine gj_put C dX3_rectangle_79 gm_up_self rfl inX3 tyX3_ok nmX3 13 (by decide) w_342 rfl rfl rfl (Nat.le_of_ble_eq_true rfl) ?_
            refine gj_f (f' := (gm_up f y (.inr (3, [.int 0, .ref (ad 0), .ref (ad 1), .ref (ad 2), .ref (ad 3), .ref (ad 4), .ref (ad 5), .ref (ad 6), .int (nI (cn en 4096)), .int isR, .int sh, .int tp, .int lf, .int bt, .int r5.2.2.2.2, .int (nI ml.length), .ref (ad 7)])))) (by rw [gm_up_up] <;> rfl) ?_
            refine gj_aload_n C dX3_rectangle_82 rfl ?_
            refine gj_iload C dX3_rectangle_83 rfl ?_
            refine gj_put C dX3_rectangle_85 gm_up_self rfl inX3 tyX3_ok nmX3 14 (by decide) w_343 rfl rfl rfl (Nat.le_of_ble_eq_true rfl) ?_
            refine gj_f (f' := (gm_up f y (.inr (3, [.int 0, .ref (ad 0), .ref (ad 1), .ref (ad 2), .ref (ad 3), .ref (ad 4), .ref (ad 5), .ref (ad 6), .int (nI (cn en 4096)), .int isR, .int sh, .int tp, .int lf, .int bt, .int rt, .int (nI ml.length), .ref (ad 7)])))) (by rw [gm_up_up] <;> rfl) ?_
            refine gj_aload_n C dX3_rectangle_88 rfl ?_
            refine gj_iconst (v := 1) C dX3_rectangle_89 (by decide) ?_
            refine gj_put C dX3_rectangle_90 gm_up_self rfl inX3 tyX3_ok nmX3 9 (by decide) w_338 rfl (by decide +kernel) rfl (Nat.le_of_ble_eq_true rfl) ?_
            refine gj_f (f' := (gm_up f y (.inr (3, [.int 0, .ref (ad 0), .ref (ad 1), .ref (ad 2), .ref (ad 3), .ref (ad 4), .ref (ad 5), .ref (ad 6), .int (nI (cn en 4096)), .int 1, .int sh, .int tp, .int lf, .int bt, .int rt, .int (nI ml.length), .ref (ad 7)])))) (by rw [gm_up_up] <;> rfl) ?_
            refine gj_iconst (v := 1) C dX3_rectangle_93 (by decide) ?_
            exact gj_zret C hr hlk dX3_rectangle_94 nz_1 (⟨by rw [bI_t (show vr (sh, tp, lf, bt, rt) from (by have qc2 := bI_p1 c2; have qc4 := bI_p1 c4; have qc6 := bI_p1 c6; have qc8 := bI_p1 c8; have qc10 := bI_p1 c10; revert qc2 qc4 qc6 qc8 qc10; simp only [i_le, i_lt, i_eq, t_0, t_1, t_5, t_7, t_8, t_16383, t_16384, t_32768, t_1048576, vs, vl, vc, vn, ll, rF, rL, rMeet, rIn, rY, if_true, if_false, Bool.false_eq_true, ite_true, ite_false, reduceIte, wn, vr]; (try intros); omega))], by rw [if_pos (show vr (sh, tp, lf, bt, rt) from (by have qc2 := bI_p1 c2; have qc4 := bI_p1 c4; have qc6 := bI_p1 c6; have qc8 := bI_p1 c8; have qc10 := bI_p1 c10; revert qc2 qc4 qc6 qc8 qc10; simp only [i_le, i_lt, i_eq, t_0, t_1, t_5, t_7, t_8, t_16383, t_16384, t_32768, t_1048576, vs, vl, vc, vn, ll, rF, rL, rMeet, rIn, rY, if_true, if_false, Bool.false_eq_true, ite_true, ite_false, reduceIte, wn, vr]; (try intros); omega))]; exact ⟨ad, ga, 1, (sh, tp, lf, bt, rt), rpm_y (nx' := some (sh, tp, lf, bt, rt)) (isR' := 1) (r5' := (sh, tp, lf, bt, rt)) hW 0 _ ⟨rfl, rfl⟩ hW.2.2.2.2.2.1 hW.2.2.2.2.2.2⟩⟩)
          · refine gj_iconst (v := 0) C dX3_rectangle_59 (by decide) ?_
            exact gj_zret C hr hlk dX3_rectangle_60 nz_0 (⟨by rw [bI_f (show ¬ vr (sh, tp, lf, bt, rt) from (by have qc2 := bI_p1 c2; have qc4 := bI_p1 c4; have qc6 := bI_p1 c6; have qc8 := bI_p1 c8; have qc10 := bI_p0 c10; revert qc2 qc4 qc6 qc8 qc10; simp only [i_le, i_lt, i_eq, t_0, t_1, t_5, t_7, t_8, t_16383, t_16384, t_32768, t_1048576, vs, vl, vc, vn, ll, rF, rL, rMeet, rIn, rY, if_true, if_false, Bool.false_eq_true, ite_true, ite_false, reduceIte, wn, vr]; (try intros); omega))], by rw [if_neg (show ¬ vr (sh, tp, lf, bt, rt) from (by have qc2 := bI_p1 c2; have qc4 := bI_p1 c4; have qc6 := bI_p1 c6; have qc8 := bI_p1 c8; have qc10 := bI_p0 c10; revert qc2 qc4 qc6 qc8 qc10; simp only [i_le, i_lt, i_eq, t_0, t_1, t_5, t_7, t_8, t_16383, t_16384, t_32768, t_1048576, vs, vl, vc, vn, ll, rF, rL, rMeet, rIn, rY, if_true, if_false, Bool.false_eq_true, ite_true, ite_false, reduceIte, wn, vr]; (try intros); omega))]; exact ⟨ad, ga, isR, r5, hW⟩⟩)
