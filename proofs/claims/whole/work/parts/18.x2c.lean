/-! RangeReaders: findMeeting, putLines. By gen/m18.py. -/
set_option maxRecDepth 100000 in
set_option maxHeartbeats 4000000 in
theorem k_findMeeting (l : Launch) (D : va_G) (cI cN cZ cJ : ClassId) (f : gm) (x : Nat) (nx : Option Rc) (en : Nat → Option En) (n : Nat) (ml : List Nat) (a : Nat) (r0 : Rc) (hR : Rp cI cN f x nx en n ml) (ha : f a = some (cAr r0)) : gk l yX2_findMeeting (.code yX2_findMeeting cX2_findMeeting 4 (Option.none : Option Jvm.ClassFile.FieldType)) (rmk 1 1 1024) D (tyl cI cN cZ cJ) [.ref x, .ref a] f (fun v u => v = none ∧ Rp cI cN u x nx en n (mls en r0 n)) := by
  refine gk_of [some (.ref x), some (.ref a), none, none] (by decide) rfl (Nat.le_of_ble_eq_true rfl) rfl ?_
  intro p e s m args below meth c A C hV hr hlk hnm
  obtain ⟨q, hE, hM, k, g, mf, ar, hW⟩ := hR
  have hn : n ≤ 1024 := hW.2.2.2.1.2.1
  have hk : k ≤ 1024 := hW.2.2.2.1.2.2.1
  have loop : ∀ (hM k : Nat), k ≤ 1024 → n ≤ k → ∀ (d i : Nat) (f : gm) (mf : Nat → Int32), i + d = n → rpw cI cN f x nx en n (mls en r0 i) q hE hM k g mf ar → f a = some (cAr r0) → gj p l e (rmk 1 1 1024) s m args below meth c D vwCl A 4 (MQ below (gk_Q (fun v u => v = none ∧ Rp cI cN u x nx en n (mls en r0 n)) D A) args s (rmk 1 1 1024).cells (rmk 1 1 1024).slots A) f 0 0 31 [some (.ref x), some (.ref a), some (.int (nI i)), none] [] := by
    intro hM k hk hnk d
    induction d with
    | zero =>
      intro i f mf hid hW ha
      rw [show mls en r0 i = mls en r0 n by rw [show i = n by omega]] at hW
      refine gj_iload_n C dX2_findMeeting_31 rfl ?_
      refine gj_aload_n C dX2_findMeeting_32 rfl ?_
      refine gj_get C dX2_findMeeting_33 hW.1.1 rfl inX2 1 (by decide) w_22 rfl ?_
      refine gj_alen C 1 dX2_findMeeting_36 hW.1.2.1 rfl ?_
      refine gj_icmp_geT (tgt := 100) C dX2_findMeeting_37 (by decide) (by rw [show i = n by omega]; exact Int32.le_refl _) ?_
      exact gj_vret C hr hlk dX2_findMeeting_100 (⟨rfl, q, hE, hM, k, g, mf, ar, hW⟩)
    | succ d ih =>
      intro i f mf hid hW ha
      have hj : i < n := by omega
      have hlen : (mls en r0 i).length < k := by have := mls_len en r0 i; omega
      cases hei : en i with
      | none =>
        refine gj_iload_n C dX2_findMeeting_31 rfl ?_
        refine gj_aload_n C dX2_findMeeting_32 rfl ?_
        refine gj_get C dX2_findMeeting_33 hW.1.1 rfl inX2 1 (by decide) w_22 rfl ?_
        refine gj_alen C 1 dX2_findMeeting_36 hW.1.2.1 rfl ?_
        refine gj_icmp_geF (tgt := 100) C dX2_findMeeting_37 (by decide) (nI_ge hj (by omega)) ?_
        refine gj_aload_n C dX2_findMeeting_40 rfl ?_
        refine gj_get C dX2_findMeeting_41 hW.1.1 rfl inX2 1 (by decide) w_22 rfl ?_
        refine gj_iload_n C dX2_findMeeting_44 rfl ?_
        refine gj_aaldN C 1 dX2_findMeeting_45 hW.1.2.1 rfl hj (by omega) ?_
        refine gj_st (st' := [.null]) (by rw [rpw_no hW hj hei]; rfl) ?_
        refine gj_astore_nN (lw' := [some (.ref x), some (.ref a), some (.int (nI i)), some (.null)]) C dX2_findMeeting_46 (by decide) rfl rfl ?_
        refine gj_aload_nN C dX2_findMeeting_47 rfl ?_
        refine gj_ifnullN (tgt := 94) C dX2_findMeeting_48 (by decide) ?_
        refine gj_iinc (v := (nI (i + 1))) (lw' := [some (.ref x), some (.ref a), some (.int (nI (i + 1))), some (.null)]) C dX2_findMeeting_94 rfl (nI_1 i) (by decide) rfl rfl ?_
        refine gj_goto (tgt := 31) C dX2_findMeeting_97 (by decide) ?_
        refine gj_un 3 (lw' := [some (.ref x), some (.ref a), some (.int (nI (i + 1))), none]) rfl ?_
        exact ih (i + 1) f mf (by omega) (by rw [mls_f (by unfold mtb; rw [hei])]; exact hW) ha
      | some e0 =>
        obtain ⟨z, z1, z2, z3⟩ := rpw_at hW hj hei
        refine gj_iload_n C dX2_findMeeting_31 rfl ?_
        refine gj_aload_n C dX2_findMeeting_32 rfl ?_
        refine gj_get C dX2_findMeeting_33 hW.1.1 rfl inX2 1 (by decide) w_22 rfl ?_
        refine gj_alen C 1 dX2_findMeeting_36 hW.1.2.1 rfl ?_
        refine gj_icmp_geF (tgt := 100) C dX2_findMeeting_37 (by decide) (nI_ge hj (by omega)) ?_
        refine gj_aload_n C dX2_findMeeting_40 rfl ?_
        refine gj_get C dX2_findMeeting_41 hW.1.1 rfl inX2 1 (by decide) w_22 rfl ?_
        refine gj_iload_n C dX2_findMeeting_44 rfl ?_
        refine gj_aaldN C 1 dX2_findMeeting_45 hW.1.2.1 rfl hj (by omega) ?_
        refine gj_st (st' := [.ref z]) (by rw [z1]; rfl) ?_
        refine gj_astore_n (lw' := [some (.ref x), some (.ref a), some (.int (nI i)), some (.ref z)]) C dX2_findMeeting_46 (by decide) rfl rfl ?_
        refine gj_aload_n C dX2_findMeeting_47 rfl ?_
        refine gj_ifnull C dX2_findMeeting_48 ?_
        refine gj_aload_n C dX2_findMeeting_51 rfl ?_
        refine gj_getN C dX2_findMeeting_52 z2 rfl inX1 0 (by decide) (hV.2.1 _ nw_8) rfl ?_
        refine gj_aload_n C dX2_findMeeting_55 rfl ?_
        refine gj_cVN (As := [.ref a]) (rest := []) (nc := 0) (ns := 0) C hV (k_Area_meets l D (tyl cI cN cZ cJ) f (ar i) a e0.1 r0 z3 ha) dX2_findMeeting_56 rfl w_250 rfl nw_10 w_3 w_249 ws_7 hd_X0_meets rfl z3 rfl ⟨Nat.le_of_ble_eq_true rfl, Nat.le_of_ble_eq_true rfl⟩ (Nat.le_of_ble_eq_true rfl) (by decide) (by decide) (fun v u hp1 => ?_)
        refine gj_rt (st' := [.int (bI (decide (rMeet e0.1 r0)))]) hp1.1 hp1.2 rfl ?_
        refine gj_if_eq (tgt := 94) C dX2_findMeeting_59 (by decide) (fun c2 => ?_) (fun c2 => ?_)
        · refine gj_iinc (v := (nI (i + 1))) (lw' := [some (.ref x), some (.ref a), some (.int (nI (i + 1))), some (.ref z)]) C dX2_findMeeting_94 rfl (nI_1 i) (by decide) rfl rfl ?_
          refine gj_goto (tgt := 31) C dX2_findMeeting_97 (by decide) ?_
          refine gj_un 3 (lw' := [some (.ref x), some (.ref a), some (.int (nI (i + 1))), none]) rfl ?_
          exact ih (i + 1) f mf (by omega) (by rw [mls_f (by unfold mtb; rw [hei]; exact decide_eq_false (bI_p0 c2))]; exact hW) ha
        · refine gj_aload_n C dX2_findMeeting_62 rfl ?_
          refine gj_get C dX2_findMeeting_63 hW.1.1 rfl inX2 4 (by decide) w_25 rfl ?_
          refine gj_aload_n C dX2_findMeeting_66 rfl ?_
          refine gj_get C dX2_findMeeting_67 hW.1.1 rfl inX2 3 (by decide) w_24 rfl ?_
          refine gj_alen C 0 dX2_findMeeting_70 hW.1.2.2 rfl ?_
          refine gj_icmp_geF (tgt := 94) C dX2_findMeeting_71 (by decide) (nI_ge hlen (by omega)) ?_
          refine gj_aload_n C dX2_findMeeting_74 rfl ?_
          refine gj_get C dX2_findMeeting_75 hW.1.1 rfl inX2 3 (by decide) w_24 rfl ?_
          refine gj_aload_n C dX2_findMeeting_78 rfl ?_
          refine gj_get C dX2_findMeeting_79 hW.1.1 rfl inX2 4 (by decide) w_25 rfl ?_
          refine gj_iload_n C dX2_findMeeting_82 rfl ?_
          refine gj_iastN C 0 dX2_findMeeting_83 hW.1.2.2 rfl hlen (by omega) ?_
          refine gj_aload_n C dX2_findMeeting_84 rfl ?_
          refine gj_dup C dX2_findMeeting_85 rfl ?_
          refine gj_get C dX2_findMeeting_86 ((gm_up_ne (gm_ne hW.1.1 hW.1.2.2 (by simp))).trans hW.1.1) rfl inX2 4 (by decide) w_25 rfl ?_
          refine gj_iconst (v := 1) C dX2_findMeeting_89 (by decide) ?_
          refine gj_iadd C dX2_findMeeting_90 ?_
          refine gj_put C dX2_findMeeting_91 ((gm_up_ne (gm_ne hW.1.1 hW.1.2.2 (by simp))).trans hW.1.1) rfl inX2 tyX2_ok nmX2 4 (by decide) w_25 rfl rfl rfl (Nat.le_of_ble_eq_true rfl) ?_
          refine gj_iinc (v := (nI (i + 1))) (lw' := [some (.ref x), some (.ref a), some (.int (nI (i + 1))), some (.ref z)]) C dX2_findMeeting_94 rfl (nI_1 i) (by decide) rfl rfl ?_
          refine gj_goto (tgt := 31) C dX2_findMeeting_97 (by decide) ?_
          refine gj_un 3 (lw' := [some (.ref x), some (.ref a), some (.int (nI (i + 1))), none]) rfl ?_
          exact ih (i + 1) _ _ (by omega) (by rw [mls_t (by unfold mtb; rw [hei]; exact decide_eq_true (bI_p1 c2))]; exact rpw_metS hW i hlen) ((gm_up_ne (gm_ne ha hW.1.1 (by simp))).trans ((gm_up_ne (gm_ne ha hW.1.2.2 (by simp))).trans ha))
  refine gj_aload_n C dX2_findMeeting_0 rfl ?_
  refine gj_get C dX2_findMeeting_1 hW.1.1 rfl inX2 3 (by decide) w_24 rfl ?_
  refine gj_alen C 0 dX2_findMeeting_4 hW.1.2.2 rfl ?_
  refine gj_aload_n C dX2_findMeeting_5 rfl ?_
  refine gj_get C dX2_findMeeting_6 hW.1.1 rfl inX2 1 (by decide) w_22 rfl ?_
  refine gj_alen C 1 dX2_findMeeting_9 hW.1.2.1 rfl ?_
  refine gj_icmp_ge (tgt := 24) C dX2_findMeeting_10 (by decide) (fun c3 => ?_) (fun c3 => ?_)
  · refine gj_aload_n C dX2_findMeeting_24 rfl ?_
    refine gj_iconst (v := 0) C dX2_findMeeting_25 (by decide) ?_
    refine gj_put C dX2_findMeeting_26 hW.1.1 rfl inX2 tyX2_ok nmX2 4 (by decide) w_25 rfl rfl rfl (Nat.le_of_ble_eq_true rfl) ?_
    refine gj_iconst (v := 0) C dX2_findMeeting_29 (by decide) ?_
    refine gj_istore_n (lw' := [some (.ref x), some (.ref a), some (.int 0), none]) C dX2_findMeeting_30 (by decide) rfl rfl ?_
    refine gj_un 3 (lw' := [some (.ref x), some (.ref a), some (.int 0), none]) rfl ?_
    refine gj_nc (Nat.zero_le _) (Nat.zero_le _) ?_
    exact loop hM k hk ((nI_leI (by omega) (by omega)).mp c3) n 0 _ mf (by omega) (rpw_met0 hW) ((gm_up_ne (gm_ne ha hW.1.1 (by simp))).trans ha)
  · refine gj_aload_n C dX2_findMeeting_13 rfl ?_
    refine gj_aload_n C dX2_findMeeting_14 rfl ?_
    refine gj_get C dX2_findMeeting_15 hW.1.1 rfl inX2 1 (by decide) w_22 rfl ?_
    refine gj_alen C 1 dX2_findMeeting_18 hW.1.2.1 rfl ?_
    refine gj_newa (N := n) (a0 := (n, .inl (fun _ => 0))) (nc := 0) (ns := 0) C 0 dX2_findMeeting_19 rfl rfl w_37 (fun _ => rfl) (nI_pos (by omega)) (nI_clamp (by omega)) (by show n * 4 ≤ 536870912; omega) (by show 0 + 1 ≤ 1; decide) (by show 0 + n ≤ 1024; omega) (fun b hb => ?_)
    refine gj_put C dX2_findMeeting_21 (gm_up_of hW.1.1 hb) rfl inX2 tyX2_ok nmX2 3 (by decide) w_24 rfl rfl rfl (Nat.le_of_ble_eq_true rfl) ?_
    refine gj_aload_n C dX2_findMeeting_24 rfl ?_
    refine gj_iconst (v := 0) C dX2_findMeeting_25 (by decide) ?_
    refine gj_put C dX2_findMeeting_26 gm_up_self rfl inX2 tyX2_ok nmX2 4 (by decide) w_25 rfl rfl rfl (Nat.le_of_ble_eq_true rfl) ?_
    refine gj_iconst (v := 0) C dX2_findMeeting_29 (by decide) ?_
    refine gj_istore_n (lw' := [some (.ref x), some (.ref a), some (.int 0), none]) C dX2_findMeeting_30 (by decide) rfl rfl ?_
    refine gj_un 3 (lw' := [some (.ref x), some (.ref a), some (.int 0), none]) rfl ?_
    refine gj_f (f' := gm_up (gm_up f b (aI cI n (fun _ => 0))) x (cRR q hE (nI (cn en n)) b 0)) (by rw [gm_up_up] <;> rfl) ?_
    exact loop b n hn (Nat.le_refl _) n 0 _ _ (by omega) (rpw_metN hW hb _) ((gm_up_ne (gm_ne ha hW.1.1 (by simp))).trans (gm_up_of ha hb))
set_option maxRecDepth 100000 in
set_option maxHeartbeats 4000000 in
theorem k_putLines (l : Launch) (D : va_G) (cI cN cZ cJ : ClassId) (f : gm) (x : Nat) (nx : Option Rc) (en : Nat → Option En) (n : Nat) (ml : List Nat) (i : Nat) (e0 : En) (cs : Bool) (a b : Int32) (hR : Rp cI cN f x nx en n ml) (hi : i < n) (hei : en i = some e0) (hle : rF cs e0.1 ≤ rL cs e0.1) : gk l yX2_putLines (.code yX2_putLines cX2_putLines 7 (Option.some Jvm.ClassFile.FieldType.int)) (rmk 1 0 0) D (tyl cI cN cZ cJ) [.ref x, .int (nI i), .int (bI cs), .int a, .int b] f (fun v u => v = some (.int (bI (decide (¬ (a = rF cs e0.1 ∧ b = rL cs e0.1))))) ∧ Rp cI cN u x nx (va_up en i (plE cs a b e0)) n ml) := by
  refine gk_of [some (.ref x), some (.int (nI i)), some (.int (bI cs)), some (.int a), some (.int b), none, none] (by decide) rfl (Nat.le_of_ble_eq_true rfl) rfl ?_
  intro p e s m args below meth c A C hV hr hlk hnm
  obtain ⟨q, hE, hM, k, g, mf, ar, hW⟩ := hR
  have hn : n ≤ 1024 := hW.2.2.2.1.2.1
  have hk : k ≤ 1024 := hW.2.2.2.1.2.2.1
  obtain ⟨z, z1, z2, z3⟩ := rpw_at hW hi hei
  refine gj_aload_n C dX2_putLines_0 rfl ?_
  refine gj_iload_n C dX2_putLines_1 rfl ?_
  refine gj_cV (As := [.int (nI i)]) (rest := []) (nc := 0) (ns := 0) C hV (k_entryAt l D cI cN cZ cJ f x q hE hM _ _ n g (nI i) hW.1.1 hW.1.2.1 hn) dX2_putLines_2 rfl w_89 rfl w_86 w_1 w_88 ws_0 hd_X2_entryAt rfl hW.1.1 rfl ⟨Nat.le_of_ble_eq_true rfl, Nat.le_of_ble_eq_true rfl⟩ (Nat.le_of_ble_eq_true rfl) (by decide) (by decide) (fun v u hp => ?_)
  obtain ⟨hp1, hu⟩ := hp
  rcases hp1 with ⟨j9, hj9, hij, hv⟩ | ⟨hno, -⟩
  · have hij : i = j9 := (nI_eq (by omega) (by omega)).mp hij
    subst hij
    refine gj_rt (st' := [.ref z]) (hv.trans (by rw [z1])) hu rfl ?_
    refine gj_astore (lw' := [some (.ref x), some (.int (nI i)), some (.int (bI cs)), some (.int a), some (.int b), some (.ref z), none]) C dX2_putLines_5 (by decide) rfl rfl ?_
    refine gj_aload C dX2_putLines_7 rfl ?_
    refine gj_ifnonnull (tgt := 14) C dX2_putLines_9 (by decide) ?_
    refine gj_aload C dX2_putLines_14 rfl ?_
    refine gj_getN C dX2_putLines_16 z2 rfl inX1 0 (by decide) (hV.2.1 _ nw_8) rfl ?_
    refine gj_astore (lw' := [some (.ref x), some (.int (nI i)), some (.int (bI cs)), some (.int a), some (.int b), some (.ref z), some (.ref (ar i))]) C dX2_putLines_19 (by decide) rfl rfl ?_
    refine gj_iload_n C dX2_putLines_21 rfl ?_
    refine gj_aload C dX2_putLines_22 rfl ?_
    refine gj_iload_n C dX2_putLines_24 rfl ?_
    refine gj_cVN (As := [.int (bI cs)]) (rest := [.int a]) (nc := 0) (ns := 0) C hV (k_Area_first l D (tyl cI cN cZ cJ) f (ar i) e0.1 cs z3) dX2_putLines_25 rfl w_276 rfl nw_13 w_3 w_275 ws_9 hd_X0_first rfl z3 rfl ⟨Nat.le_of_ble_eq_true rfl, Nat.le_of_ble_eq_true rfl⟩ (Nat.le_of_ble_eq_true rfl) (by decide) (by decide) (fun v u hp1 => ?_)
    refine gj_rt (st' := [.int (rF cs e0.1), .int a]) hp1.1 hp1.2 rfl ?_
    refine gj_icmp_ne (tgt := 44) C dX2_putLines_28 (by decide) (fun c2 => ?_) (fun c2 => ?_)
    · refine gj_iload_n C dX2_putLines_44 rfl ?_
      refine gj_iload C dX2_putLines_45 rfl ?_
      refine gj_icmp_le (tgt := 58) C dX2_putLines_47 (by decide) (fun c3 => ?_) (fun c3 => ?_)
      · refine gj_aload C dX2_putLines_58 rfl ?_
        refine gj_iload_n C dX2_putLines_60 rfl ?_
        refine gj_iload_n C dX2_putLines_61 rfl ?_
        refine gj_iload C dX2_putLines_62 rfl ?_
        refine gj_cVN (As := [.int (bI cs), .int a, .int b]) (rest := []) (nc := 0) (ns := 0) C hV (k_Area_setLines l D (tyl cI cN cZ cJ) f (ar i) e0.1 cs a b z3) dX2_putLines_64 rfl w_291 rfl nw_15 w_3 w_290 ws_12 hd_X0_setLines rfl z3 rfl ⟨Nat.le_of_ble_eq_true rfl, Nat.le_of_ble_eq_true rfl⟩ (Nat.le_of_ble_eq_true rfl) (by decide) (by decide) (fun v u hp4 => ?_)
        refine gj_rt (f := (gm_up f (ar i) (cAr (rS cs a b e0.1)))) (st' := []) hp4.1 hp4.2 rfl ?_
        refine gj_iconst (v := 1) C dX2_putLines_67 (by decide) ?_
        exact gj_iret C hr hlk dX2_putLines_68 (⟨congrArg (fun z => some (Value.int z)) (bI_tn (fun h => c2 h.1)).symm, q, hE, hM, k, g, mf, ar, by rw [plE_s c3]; exact rpw_area hW hi hei _⟩)
      · refine gj_aload_n C dX2_putLines_50 rfl ?_
        refine gj_iload_n C dX2_putLines_51 rfl ?_
        refine gj_cV (As := [.int (nI i)]) (rest := []) (nc := 0) (ns := 0) C hV (k_release l D cI cN cZ cJ f x q hE hM _ _ n g i z hW.1.1 hW.1.2.1 hn hi z1) dX2_putLines_52 rfl w_93 rfl w_90 w_1 w_92 ws_1 hd_X2_release rfl hW.1.1 rfl ⟨Nat.le_of_ble_eq_true rfl, Nat.le_of_ble_eq_true rfl⟩ (Nat.le_of_ble_eq_true rfl) (by decide) (by decide) (fun v u hp5 => ?_)
        refine gj_rt (f := (gm_up (gm_up f hE (aE cN n (va_up g i none))) x (cRR q hE (nI (cn en n) - 1) hM (nI ml.length)))) (st' := []) hp5.1 hp5.2 rfl ?_
        refine gj_goto (tgt := 67) C dX2_putLines_55 (by decide) ?_
        refine gj_iconst (v := 1) C dX2_putLines_67 (by decide) ?_
        exact gj_iret C hr hlk dX2_putLines_68 (⟨congrArg (fun z => some (Value.int z)) (bI_tn (fun h => c2 h.1)).symm, q, hE, hM, k, _, mf, ar, by rw [plE_n c3]; exact rpw_rel hW hi hei⟩)
    · refine gj_iload C dX2_putLines_31 rfl ?_
      refine gj_aload C dX2_putLines_33 rfl ?_
      refine gj_iload_n C dX2_putLines_35 rfl ?_
      refine gj_cVN (As := [.int (bI cs)]) (rest := [.int b]) (nc := 0) (ns := 0) C hV (k_Area_last l D (tyl cI cN cZ cJ) f (ar i) e0.1 cs z3) dX2_putLines_36 rfl w_280 rfl nw_14 w_3 w_279 ws_10 hd_X0_last rfl z3 rfl ⟨Nat.le_of_ble_eq_true rfl, Nat.le_of_ble_eq_true rfl⟩ (Nat.le_of_ble_eq_true rfl) (by decide) (by decide) (fun v u hp6 => ?_)
      refine gj_rt (st' := [.int (rL cs e0.1), .int b]) hp6.1 hp6.2 rfl ?_
      refine gj_icmp_ne (tgt := 44) C dX2_putLines_39 (by decide) (fun c7 => ?_) (fun c7 => ?_)
      · refine gj_iload_n C dX2_putLines_44 rfl ?_
        refine gj_iload C dX2_putLines_45 rfl ?_
        refine gj_icmp_le (tgt := 58) C dX2_putLines_47 (by decide) (fun c8 => ?_) (fun c8 => ?_)
        · refine gj_aload C dX2_putLines_58 rfl ?_
          refine gj_iload_n C dX2_putLines_60 rfl ?_
          refine gj_iload_n C dX2_putLines_61 rfl ?_
          refine gj_iload C dX2_putLines_62 rfl ?_
          refine gj_cVN (As := [.int (bI cs), .int a, .int b]) (rest := []) (nc := 0) (ns := 0) C hV (k_Area_setLines l D (tyl cI cN cZ cJ) f (ar i) e0.1 cs a b z3) dX2_putLines_64 rfl w_291 rfl nw_15 w_3 w_290 ws_12 hd_X0_setLines rfl z3 rfl ⟨Nat.le_of_ble_eq_true rfl, Nat.le_of_ble_eq_true rfl⟩ (Nat.le_of_ble_eq_true rfl) (by decide) (by decide) (fun v u hp9 => ?_)
          refine gj_rt (f := (gm_up f (ar i) (cAr (rS cs a b e0.1)))) (st' := []) hp9.1 hp9.2 rfl ?_
          refine gj_iconst (v := 1) C dX2_putLines_67 (by decide) ?_
          exact gj_iret C hr hlk dX2_putLines_68 (⟨congrArg (fun z => some (Value.int z)) (bI_tn (fun h => c7 h.2)).symm, q, hE, hM, k, g, mf, ar, by rw [plE_s c8]; exact rpw_area hW hi hei _⟩)
        · refine gj_aload_n C dX2_putLines_50 rfl ?_
          refine gj_iload_n C dX2_putLines_51 rfl ?_
          refine gj_cV (As := [.int (nI i)]) (rest := []) (nc := 0) (ns := 0) C hV (k_release l D cI cN cZ cJ f x q hE hM _ _ n g i z hW.1.1 hW.1.2.1 hn hi z1) dX2_putLines_52 rfl w_93 rfl w_90 w_1 w_92 ws_1 hd_X2_release rfl hW.1.1 rfl ⟨Nat.le_of_ble_eq_true rfl, Nat.le_of_ble_eq_true rfl⟩ (Nat.le_of_ble_eq_true rfl) (by decide) (by decide) (fun v u hp10 => ?_)
          refine gj_rt (f := (gm_up (gm_up f hE (aE cN n (va_up g i none))) x (cRR q hE (nI (cn en n) - 1) hM (nI ml.length)))) (st' := []) hp10.1 hp10.2 rfl ?_
          refine gj_goto (tgt := 67) C dX2_putLines_55 (by decide) ?_
          refine gj_iconst (v := 1) C dX2_putLines_67 (by decide) ?_
          exact gj_iret C hr hlk dX2_putLines_68 (⟨congrArg (fun z => some (Value.int z)) (bI_tn (fun h => c7 h.2)).symm, q, hE, hM, k, _, mf, ar, by rw [plE_n c8]; exact rpw_rel hW hi hei⟩)
      · refine gj_iconst (v := 0) C dX2_putLines_42 (by decide) ?_
        exact gj_iret C hr hlk dX2_putLines_43 (⟨congrArg (fun z => some (Value.int z)) (bI_fn ⟨c2, c7⟩).symm, q, hE, hM, k, g, mf, ar, by rw [plE_same c2 c7 hle, va_up_id hei]; exact hW⟩)
  · exact absurd rfl (hno i hi)
