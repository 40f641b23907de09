/-! RangeReaders: the public methods that may throw. By gen/m24.py. -/
set_option maxRecDepth 100000 in
set_option maxHeartbeats 4000000 in
theorem k_meet (l : Launch) (hl : l.stackTraces = false) (D : va_G) (cI cN cZ cJ : ClassId) (f : gm) (x : Nat) (nx : Option Rc) (en : Nat → Option En) (n : Nat) (ml : List Nat) (hR : Rp cI cN f x nx en n ml) : gkx l yX2_meet (.code yX2_meet cX2_meet 1 (Option.some Jvm.ClassFile.FieldType.int)) (rmk 5 1 1024) D (tyl cI cN cZ cJ) [.ref x] f (fun v u => ∃ r, nx = some r ∧ v = some (.int (nI (mls en r 4096).length)) ∧ Rp cI cN u x nx en n (mls en r 4096)) (fun E u => nx = none ∧ E = xIS ∧ Rp cI cN u x nx en n ml) := by
  refine gkx_of [some (.ref x)] (by decide) rfl (Nat.le_of_ble_eq_true rfl) rfl ?_
  intro p e s m args below meth c A C hV hr hlk hnm hV2 hZ hT
  obtain ⟨q, hE, hM, k, g, mf, ar, hW⟩ := hR
  have hn : n ≤ 1024 := hW.2.2.2.1.2.1
  have hk : k ≤ 1024 := hW.2.2.2.1.2.2.1
  have hd := hW.2.2.2.1.1
  cases nx with
  | none =>
    have hq : q = none := hW.2.1.1
    subst hq
    refine gj_aload_n C dX2_meet_0 rfl ?_
    refine gj_get C dX2_meet_1 hW.1.1 rfl inX2 0 (by decide) w_21 rfl ?_
    refine gj_ifnonnullN C dX2_meet_4 ?_
    exact gj_throwS C hV hV2 hZ hl hT hlk dX2_meet_7 dX2_meet_10 dX2_meet_11 dX2_meet_13 dX2_meet_16 xfit_IS w_188 w_8 (List.mem_of_getElem? (i := 0) rfl) xat1_IS xat2_IS xgd_IS (Nat.le_of_ble_eq_true rfl) (Nat.le_of_ble_eq_true rfl) (Nat.le_of_ble_eq_true rfl) (Nat.le_of_ble_eq_true rfl) (⟨rfl, rfl, ⟨_, hE, hM, k, g, mf, ar, hW⟩⟩)
  | some r =>
    obtain ⟨a, hq, ha⟩ := hW.2.1.1
    subst hq
    refine gj_aload_n C dX2_meet_0 rfl ?_
    refine gj_get C dX2_meet_1 hW.1.1 rfl inX2 0 (by decide) w_21 rfl ?_
    refine gj_ifnonnull (tgt := 17) C dX2_meet_4 (by decide) ?_
    refine gj_aload_n C dX2_meet_17 rfl ?_
    refine gj_aload_n C dX2_meet_18 rfl ?_
    refine gj_get C dX2_meet_19 hW.1.1 rfl inX2 0 (by decide) w_21 rfl ?_
    refine gj_cV (As := [.ref a]) (rest := []) (nc := 0) (ns := 0) C hV (k_findMeeting l D cI cN cZ cJ f x (some r) en n ml a r ⟨_, hE, hM, k, g, mf, ar, hW⟩ ha) dX2_meet_22 rfl w_246 rfl w_243 w_1 w_245 ws_6 hd_X2_findMeeting rfl hW.1.1 rfl ⟨Nat.le_of_ble_eq_true rfl, Nat.le_of_ble_eq_true rfl⟩ (Nat.le_of_ble_eq_true rfl) (by decide) (by decide) (fun v u hp => ?_)
    obtain ⟨hv, hR2⟩ := hp
    subst hv
    refine gj_st (st' := []) rfl ?_
    obtain ⟨q2, hE2, hM2, k2, g2, mf2, ar2, hW2⟩ := id hR2
    refine gj_aload_n C dX2_meet_25 rfl ?_
    refine gj_get C dX2_meet_26 hW2.1.1 rfl inX2 4 (by decide) w_25 rfl ?_
    exact gj_vx (gj_iret C hr hlk dX2_meet_29 (⟨r, rfl, by rw [mls_none hd 4096 (by omega)], by rw [mls_none hd 4096 (by omega)]; exact hR2⟩))
set_option maxRecDepth 100000 in
set_option maxHeartbeats 4000000 in
theorem k_readers (l : Launch) (hl : l.stackTraces = false) (D : va_G) (cI cN cZ cJ : ClassId) (f : gm) (x : Nat) (nx : Option Rc) (en : Nat → Option En) (n : Nat) (ml : List Nat) (sh rw co : Int32) (hR : Rp cI cN f x nx en n ml) : gkx l yX2_readers (.code yX2_readers cX2_readers 4 (Option.some Jvm.ClassFile.FieldType.int)) (rmk 5 2 1030) D (tyl cI cN cZ cJ) [.ref x, .int sh, .int rw, .int co] f (fun v u => vc sh rw co ∧ v = some (.int (nI (mls en (sh, rw, co, rw, co) 4096).length)) ∧ Rp cI cN u x nx en n (mls en (sh, rw, co, rw, co) 4096)) (fun E u => ¬ vc sh rw co ∧ E = xIA ∧ Rp cI cN u x nx en n ml) := by
  refine gkx_of [some (.ref x), some (.int sh), some (.int rw), some (.int co)] (by decide) rfl (Nat.le_of_ble_eq_true rfl) rfl ?_
  intro p e s m args below meth c A C hV hr hlk hnm hV2 hZ hT
  obtain ⟨q, hE, hM, k, g, mf, ar, hW⟩ := hR
  have hn : n ≤ 1024 := hW.2.2.2.1.2.1
  have hk : k ≤ 1024 := hW.2.2.2.1.2.2.1
  have hd := hW.2.2.2.1.1
  refine gj_iload_n C dX2_readers_0 rfl ?_
  refine gj_iload_n C dX2_readers_1 rfl ?_
  refine gj_iload_n C dX2_readers_2 rfl ?_
  refine gj_cS (As := [.int sh, .int rw, .int co]) (rest := []) (nc := 2) (ns := 1030) C hV (k_isCell l D (tyl cI cN cZ cJ) f sh rw co) dX2_readers_3 rfl w_44 rfl w_42 w_1 w_43 hd_X2_isCell rfl ⟨Nat.le_of_ble_eq_true rfl, Nat.le_of_ble_eq_true rfl⟩ (Nat.le_of_ble_eq_true rfl) (by decide) (by decide) (fun v u hp1 => ?_)
  refine gj_rt (st' := [.int (bI (decide (vc sh rw co)))]) hp1.1 hp1.2 rfl ?_
  refine gj_if_ne (tgt := 19) C dX2_readers_6 (by decide) (fun c2 => ?_) (fun c2 => ?_)
  · refine gj_aload_n C dX2_readers_19 rfl ?_
    refine gj_new (ci := 0) (nc := 1) (ns := 1025) C dX2_readers_20 rfl inX0 tyX0_ok w_55 w_56 w_3 dfX0 (by decide) (by decide) (fun q3 hq3 => ?_)
    refine gj_dup C dX2_readers_23 rfl ?_
    refine gj_iload_n C dX2_readers_24 rfl ?_
    refine gj_iload_n C dX2_readers_25 rfl ?_
    refine gj_iload_n C dX2_readers_26 rfl ?_
    refine gj_iload_n C dX2_readers_27 rfl ?_
    refine gj_iload_n C dX2_readers_28 rfl ?_
    refine gj_cIN (As := [.int sh, .int rw, .int co, .int rw, .int co]) (rest := [.ref q3, .ref x]) (nc := 1) (ns := 1025) C hV (k_Area_init l D (tyl cI cN cZ cJ) (gm_up f q3 (.inr (0, [.int 0, .int 0, .int 0, .int 0, .int 0]))) q3 (sh, rw, co, rw, co) 0 0 0 0 0 gm_up_self) dX2_readers_29 rfl w_59 rfl nw_0 w_3 w_58 rfl hd_X0_init rfl ⟨Nat.le_of_ble_eq_true rfl, Nat.le_of_ble_eq_true rfl⟩ (Nat.le_of_ble_eq_true rfl) (by decide) (by decide) (fun v u hp4 => ?_)
    refine gj_rt (f := (gm_up f q3 (cAr (sh, rw, co, rw, co)))) (st' := [.ref q3, .ref x]) hp4.1 (hp4.2.trans gm_up_up) rfl ?_
    refine gj_cV (As := [.ref q3]) (rest := []) (nc := 0) (ns := 1) C hV (k_findMeeting l D cI cN cZ cJ (gm_up f q3 (cAr (sh, rw, co, rw, co))) x nx en n ml q3 (sh, rw, co, rw, co) ⟨_, hE, hM, k, g, mf, ar, rpw_ext hW hq3 _⟩ gm_up_self) dX2_readers_32 rfl w_246 rfl w_243 w_1 w_245 ws_6 hd_X2_findMeeting rfl (gm_up_of hW.1.1 hq3) rfl ⟨Nat.le_of_ble_eq_true rfl, Nat.le_of_ble_eq_true rfl⟩ (Nat.le_of_ble_eq_true rfl) (by decide) (by decide) (fun v u hp => ?_)
    obtain ⟨hv, hR2⟩ := hp
    subst hv
    refine gj_st (st' := []) rfl ?_
    obtain ⟨q2, hE2, hM2, k2, g2, mf2, ar2, hW2⟩ := id hR2
    refine gj_aload_n C dX2_readers_35 rfl ?_
    refine gj_get C dX2_readers_36 hW2.1.1 rfl inX2 4 (by decide) w_25 rfl ?_
    exact gj_vx (gj_iret C hr hlk dX2_readers_39 (⟨bI_p1 c2, by rw [mls_none hd 4096 (by omega)], by rw [mls_none hd 4096 (by omega)]; exact hR2⟩))
  · exact gj_throwS C hV hV2 hZ hl hT hlk dX2_readers_9 dX2_readers_12 dX2_readers_13 dX2_readers_15 dX2_readers_18 xfit_IA w_119 w_7 (List.mem_of_getElem? (i := 3) rfl) xat1_IA xat2_IA xgd_IA (Nat.le_of_ble_eq_true rfl) (Nat.le_of_ble_eq_true rfl) (Nat.le_of_ble_eq_true rfl) (Nat.le_of_ble_eq_true rfl) (⟨bI_p0 c2, rfl, ⟨_, hE, hM, k, g, mf, ar, hW⟩⟩)
set_option maxRecDepth 100000 in
set_option maxHeartbeats 4000000 in
theorem k_add (l : Launch) (hl : l.stackTraces = false) (D : va_G) (cI cN cZ cJ : ClassId) (f : gm) (x : Nat) (nx : Option Rc) (en : Nat → Option En) (n : Nat) (ml : List Nat) (wo : Int32) (hR : Rp cI cN f x nx en n ml) (hb5 : ∀ j, 512 ≤ j → en j = none) : gkx l yX2_add (.code yX2_add cX2_add 3 (Option.some Jvm.ClassFile.FieldType.int)) (rmk 5 3 1031) D (tyl cI cN cZ cJ) [.ref x, .int wo] f (fun v u => ∃ r9 i n2, nx = some r9 ∧ (0 ≤ wo ∧ wo < 16384) ∧ lowE en i ∧ v = some (.int (nI i)) ∧ Rp cI cN u x nx (va_up en i (some (r9, wo))) n2 ml) (fun E u => (nx = none ∨ ¬ (0 ≤ wo ∧ wo < 16384)) ∧ E = xIA ∧ Rp cI cN u x nx en n ml) := by
  refine gkx_of [some (.ref x), some (.int wo), none] (by decide) rfl (Nat.le_of_ble_eq_true rfl) rfl ?_
  intro p e s m args below meth c A C hV hr hlk hnm hV2 hZ hT
  obtain ⟨q, hE, hM, k, g, mf, ar, hW⟩ := hR
  have hn : n ≤ 1024 := hW.2.2.2.1.2.1
  have hk : k ≤ 1024 := hW.2.2.2.1.2.2.1
  have hd := hW.2.2.2.1.1
  cases nx with
  | none =>
    have hq : q = none := hW.2.1.1
    subst hq
    refine gj_aload_n C dX2_add_0 rfl ?_
    refine gj_get C dX2_add_1 hW.1.1 rfl inX2 0 (by decide) w_21 rfl ?_
    refine gj_ifnonnullN C dX2_add_4 ?_
    exact gj_throwS C hV hV2 hZ hl hT hlk dX2_add_7 dX2_add_10 dX2_add_11 dX2_add_13 dX2_add_16 xfit_IA w_119 w_7 (List.mem_of_getElem? (i := 0) rfl) xat1_IA xat2_IA xgd_IA (Nat.le_of_ble_eq_true rfl) (Nat.le_of_ble_eq_true rfl) (Nat.le_of_ble_eq_true rfl) (Nat.le_of_ble_eq_true rfl) (⟨Or.inl rfl, rfl, ⟨_, hE, hM, k, g, mf, ar, hW⟩⟩)
  | some r =>
    obtain ⟨a, hq, ha⟩ := hW.2.1.1
    subst hq
    have rest : (0 ≤ wo ∧ wo < 16384) → ∀ (f1 : gm) (n1 : Nat), Rp cI cN f1 x (some r) en n1 ml → (∃ i, i < n1 ∧ lowE en i) → gj p l e (rmk 5 3 1031) s m args below meth c D vwCl A 3 (vx_MQ below (gk_Q (fun v u => ∃ r9 i n2, (some r) = some r9 ∧ (0 ≤ wo ∧ wo < 16384) ∧ lowE en i ∧ v = some (.int (nI i)) ∧ Rp cI cN u x (some r) (va_up en i (some (r9, wo))) n2 ml) D A) (gkx_X (fun E u => ((some r) = none ∨ ¬ (0 ≤ wo ∧ wo < 16384)) ∧ E = xIA ∧ Rp cI cN u x (some r) en n ml) D A) args s (rmk 5 3 1031).cells (rmk 5 3 1031).slots A) f1 2 7 61 [some (.ref x), some (.int wo), none] [] := by
      intro hok f n hR hex
      obtain ⟨i, hi, hlo⟩ := hex
      obtain ⟨q, hE, hM, k, g, mf, ar, hW⟩ := hR
      obtain ⟨a, hq, ha⟩ := hW.2.1.1
      subst hq
      have hn : n ≤ 1024 := hW.2.2.2.1.2.1
      refine gj_aload_n C dX2_add_61 rfl ?_
      refine gj_cV (As := []) (rest := []) (nc := 2) (ns := 7) C hV (k_lowestFree l D cI cN cZ cJ f x (some a) hE hM _ _ n g i hW.1.1 hW.1.2.1 hn hi (rpw_no hW hi hlo.1) (fun j hj => by
          cases hej : en j with
          | none => exact absurd hej (hlo.2 j hj)
          | some ej => exact ⟨_, (rpw_at hW (by omega) hej).choose_spec.1⟩)) dX2_add_62 rfl w_214 rfl w_211 w_1 w_213 ws_4 hd_X2_lowestFree rfl hW.1.1 rfl ⟨Nat.le_of_ble_eq_true rfl, Nat.le_of_ble_eq_true rfl⟩ (Nat.le_of_ble_eq_true rfl) (by decide) (by decide) (fun v u hp1 => ?_)
      refine gj_rt (st' := [.int (nI i)]) hp1.1 hp1.2 rfl ?_
      refine gj_istore_n (lw' := [some (.ref x), some (.int wo), some (.int (nI i))]) C dX2_add_65 (by decide) rfl rfl ?_
      refine gj_iload_n C dX2_add_66 rfl ?_
      refine gj_aload_n C dX2_add_67 rfl ?_
      refine gj_get C dX2_add_68 hW.1.1 rfl inX2 1 (by decide) w_22 rfl ?_
      refine gj_alen C 1 dX2_add_71 hW.1.2.1 rfl ?_
      refine gj_icmp_geF (tgt := 106) C dX2_add_72 (by decide) (nI_ge hi (by omega)) ?_
      refine gj_aload_n C dX2_add_75 rfl ?_
      refine gj_get C dX2_add_76 hW.1.1 rfl inX2 1 (by decide) w_22 rfl ?_
      refine gj_iload_n C dX2_add_79 rfl ?_
      refine gj_new (ci := 1) (nc := 1) (ns := 5) C dX2_add_80 rfl inX1 tyX1_ok w_19 w_215 w_10 dfX1 (by decide) (by decide) (fun q2 hq2 => ?_)
      refine gj_dup C dX2_add_83 rfl ?_
      refine gj_aload_n C dX2_add_84 rfl ?_
      refine gj_get C dX2_add_85 (gm_up_of hW.1.1 hq2) rfl inX2 0 (by decide) w_21 rfl ?_
      refine gj_cVN (As := []) (rest := [.ref q2, .ref q2, .int (nI i), .ref hE]) (nc := 0) (ns := 0) C hV (k_Area_copy l D (tyl cI cN cZ cJ) (gm_up f q2 (.inr (1, [.null, .int 0]))) a r (gm_up_of ha hq2)) dX2_add_88 rfl w_219 rfl nw_6 w_3 w_218 ws_5 hd_X0_copy rfl (gm_up_of ha hq2) rfl ⟨Nat.le_of_ble_eq_true rfl, Nat.le_of_ble_eq_true rfl⟩ (Nat.le_of_ble_eq_true rfl) (by decide) (by decide) (fun v u hp => ?_)
      obtain ⟨b1, hv, hb1, hu⟩ := hp
      refine gj_rt (st' := [.ref b1, .ref q2, .ref q2, .int (nI i), .ref hE]) hv hu rfl ?_
      have hbz : b1 ≠ q2 := fun h => by rw [h, gm_up_self] at hb1; cases hb1
      have hb0 : f b1 = none := by rw [gm_up_ne hbz] at hb1; exact hb1
      refine gj_iload_n C dX2_add_91 rfl ?_
      have hz0 : gm_up f b1 (cAr r) q2 = none := by rw [gm_up_ne (Ne.symm hbz)]; exact hq2
      refine gj_cIN (As := [.ref b1, .int wo]) (rest := [.ref q2, .int (nI i), .ref hE]) (nc := 0) (ns := 0) C hV (k_Entry_init l D (tyl cI cN cZ cJ) (gm_up (gm_up f q2 (.inr (1, [.null, .int 0]))) b1 (cAr r)) q2 b1 wo 0 ((gm_up_ne (Ne.symm hbz)).trans gm_up_self)) dX2_add_92 rfl w_224 rfl nw_7 w_10 w_223 rfl hd_X1_init rfl ⟨Nat.le_of_ble_eq_true rfl, Nat.le_of_ble_eq_true rfl⟩ (Nat.le_of_ble_eq_true rfl) (by decide) (by decide) (fun v u hp3 => ?_)
      refine gj_rt (f := (gm_up (gm_up f b1 (cAr r)) q2 (cEn b1 wo))) (st' := [.ref q2, .int (nI i), .ref hE]) hp3.1 (hp3.2.trans gm_swap) rfl ?_
      refine gj_aastJ C 1 dX2_add_95 (gm_up_of (gm_up_of hW.1.2.1 hb0) hz0) rfl gm_up_self rfl hi (by omega) ?_
      refine gj_aload_n C dX2_add_96 rfl ?_
      refine gj_dup C dX2_add_97 rfl ?_
      refine gj_get C dX2_add_98 ((gm_up_ne (gm_ne hW.1.1 hW.1.2.1 (by simp))).trans (gm_up_of (gm_up_of hW.1.1 hb0) hz0)) rfl inX2 2 (by decide) w_23 rfl ?_
      refine gj_iconst (v := 1) C dX2_add_101 (by decide) ?_
      refine gj_iadd C dX2_add_102 ?_
      refine gj_put C dX2_add_103 ((gm_up_ne (gm_ne hW.1.1 hW.1.2.1 (by simp))).trans (gm_up_of (gm_up_of hW.1.1 hb0) hz0)) rfl inX2 tyX2_ok nmX2 2 (by decide) w_23 rfl rfl rfl (Nat.le_of_ble_eq_true rfl) ?_
      refine gj_iload_n C dX2_add_106 rfl ?_
      exact gj_vx (gj_iret C hr hlk dX2_add_107 (⟨r, i, n, rfl, hok, hlo, rfl, ⟨_, hE, hM, k, _, mf, _, rpw_add hW hi hlo.1 hb0 hz0⟩⟩))
    refine gj_aload_n C dX2_add_0 rfl ?_
    refine gj_get C dX2_add_1 hW.1.1 rfl inX2 0 (by decide) w_21 rfl ?_
    refine gj_ifnonnull (tgt := 17) C dX2_add_4 (by decide) ?_
    refine gj_iload_n C dX2_add_17 rfl ?_
    refine gj_if_lt (tgt := 28) C dX2_add_18 (by decide) (fun c4 => ?_) (fun c4 => ?_)
    · exact gj_throwS C hV hV2 hZ hl hT hlk dX2_add_28 dX2_add_31 dX2_add_32 dX2_add_34 dX2_add_37 xfit_IA w_119 w_7 (List.mem_of_getElem? (i := 1) rfl) xat1_IA xat2_IA xgd_IA (Nat.le_of_ble_eq_true rfl) (Nat.le_of_ble_eq_true rfl) (Nat.le_of_ble_eq_true rfl) (Nat.le_of_ble_eq_true rfl) (⟨Or.inr (fun h => i_ltn c4 h.1), rfl, ⟨_, hE, hM, k, g, mf, ar, hW⟩⟩)
    · refine gj_iload_n C dX2_add_21 rfl ?_
      refine gj_sipush (v := 16384) C dX2_add_22 (by decide) ?_
      refine gj_icmp_lt (tgt := 38) C dX2_add_25 (by decide) (fun c5 => ?_) (fun c5 => ?_)
      · refine gj_aload_n C dX2_add_38 rfl ?_
        refine gj_get C dX2_add_39 hW.1.1 rfl inX2 2 (by decide) w_23 rfl ?_
        refine gj_ldc (v := 32768) C dX2_add_42 w_187 ?_
        refine gj_icmp_ltT (tgt := 57) C dX2_add_44 (by decide) (by rw [i_lt, t_32768, nI_toInt (by have := cn_le en n; omega)]; have := cn_le en n; omega) ?_
        refine gj_aload_n C dX2_add_57 rfl ?_
        have hok : (0 ≤ wo ∧ wo < 16384) := ⟨i_nlt c4, c5⟩
        rcases Nat.lt_or_ge (cn en n) n with hlt | hge
        · refine gj_cV (As := []) (rest := []) (nc := 2) (ns := 7) C hV (k_makeRoomA l D cI cN cZ cJ f x (some a) hE hM _ _ n g hW.1.1 hW.1.2.1 hn (nI_ge hlt (by omega))) dX2_add_58 rfl w_207 rfl w_204 w_1 w_206 ws_3 hd_X2_makeRoom rfl hW.1.1 rfl ⟨Nat.le_of_ble_eq_true rfl, Nat.le_of_ble_eq_true rfl⟩ (Nat.le_of_ble_eq_true rfl) (by decide) (by decide) (fun v u hp6 => ?_)
          refine gj_rt (st' := []) hp6.1 hp6.2 rfl ?_
          exact rest hok f n ⟨_, hE, hM, k, g, mf, ar, hW⟩ (low_ex n hlt)
        · have hfl : cn en n = n := Nat.le_antisymm (cn_le en n) hge
          have hn5 : n ≤ 512 := by
            rcases Nat.lt_or_ge 512 n with h | h
            · exact absurd (hb5 512 (Nat.le_refl _)) (cn_all n hfl 512 h)
            · exact h
          refine gj_cV (As := []) (rest := []) (nc := 2) (ns := 7) C hV (k_makeRoomB l D cI cN cZ cJ f x (some a) hE hM _ n g (by rw [← hfl]; exact hW.1.1) hW.1.2.1 hn5 (fun j hj => by
              cases hej : en j with
              | none => exact absurd hej (cn_all n hfl j hj)
              | some ej => obtain ⟨z, z1, z2, z3⟩ := rpw_at hW hj hej; exact ⟨z, _, _, z1, z2⟩)) dX2_add_58 rfl w_207 rfl w_204 w_1 w_206 ws_3 hd_X2_makeRoom rfl hW.1.1 rfl ⟨Nat.le_of_ble_eq_true rfl, Nat.le_of_ble_eq_true rfl⟩ (Nat.le_of_ble_eq_true rfl) (by show 2 + 1 ≤ 3; decide) (by show 7 + 2 * n ≤ 1031; omega) (fun v u hp => ?_)
          obtain ⟨b, hv, hb, hu⟩ := hp
          refine gj_rt (st' := []) hv hu rfl ?_
          exact rest hok _ (2 * n) ⟨_, b, hM, k, _, mf, ar, by have h9 := rpw_grow hW hb hn5; rw [hfl] at h9; exact h9⟩ (low_ex (2 * n) (by rw [cn_none hd (2 * n) (by omega), hfl]; have := hW.2.2.2.1.2.2.2; omega))
      · exact gj_throwS C hV hV2 hZ hl hT hlk dX2_add_28 dX2_add_31 dX2_add_32 dX2_add_34 dX2_add_37 xfit_IA w_119 w_7 (List.mem_of_getElem? (i := 1) rfl) xat1_IA xat2_IA xgd_IA (Nat.le_of_ble_eq_true rfl) (Nat.le_of_ble_eq_true rfl) (Nat.le_of_ble_eq_true rfl) (Nat.le_of_ble_eq_true rfl) (⟨Or.inr (fun h => c5 h.2), rfl, ⟨_, hE, hM, k, g, mf, ar, hW⟩⟩)
