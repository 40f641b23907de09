/-! RangeReaders.carry. By gen/m21.py. -/
set_option maxRecDepth 100000 in
set_option maxHeartbeats 4000000 in
theorem k_carry (l : Launch) (D : va_G) (cI cN cZ cJ : ClassId) (f : gm) (x : Nat) (nx : Option Rc) (en : Nat → Option En) (n : Nat) (ml : List Nat) (hE hM k : Nat) (g : Nat → Option Nat) (mf : Nat → Int32) (ar : Nat → Nat) (a b : Nat) (r1 r2 : Rc) (hW : rpw cI cN f x nx en n ml (some a) hE hM k g mf ar) (ha : f a = some (cAr r1)) (hb : f b = some (cAr r2)) (hbn : ∀ i, i < n → en i ≠ none → ar i ≠ b) (hS : sameM r1 r2 → r2 = r1) : gk l yX2_carry (.code yX2_carry cX2_carry 8 (Option.some Jvm.ClassFile.FieldType.int)) (rmk 1 0 0) D (tyl cI cN cZ cJ) [.ref x, .ref a, .ref b] f (fun v u => v = some (.int (nI (cbE (chM r1 r2) en 4096))) ∧ Rp cI cN u x nx (mapE (phM r1 r2) en) n ml) := by
  refine gk_of [some (.ref x), some (.ref a), some (.ref b), none, none, none, none, none] (by decide) rfl (Nat.le_of_ble_eq_true rfl) rfl ?_
  intro p e s m args below meth c A C hV hr hlk hnm
  have hd : ∀ j, n ≤ j → en j = none := hW.2.2.2.1.1
  have hn : n ≤ 1024 := hW.2.2.2.1.2.1
  have loop : ¬ sameM r1 r2 → ∀ (d i : Nat) (f : gm) (g : Nat → Option Nat), i + d = n → rpw cI cN f x nx (mapI (phM r1 r2) en i) n ml (some a) hE hM k g mf ar → f a = some (cAr r1) → f b = some (cAr r2) → gj p l e (rmk 1 0 0) s m args below meth c D vwCl A 8 (MQ below (gk_Q (fun v u => v = some (.int (nI (cbE (chM r1 r2) en 4096))) ∧ Rp cI cN u x nx (mapE (phM r1 r2) en) n ml) D A) args s (rmk 1 0 0).cells (rmk 1 0 0).slots A) f 0 0 49 [some (.ref x), some (.ref a), some (.ref b), some (.int (r2.2.1 - r1.2.1)), some (.int (r2.2.2.1 - r1.2.2.1)), some (.int (nI (cbE (chM r1 r2) en i))), some (.int (nI i)), none] [] := by
    intro hns d
    induction d with
    | zero =>
      intro i f g hid hW ha hb
      rw [show mapI (phM r1 r2) en i = mapI (phM r1 r2) en n by rw [show i = n by omega]] at hW
      refine gj_iload C dX2_carry_49 rfl ?_
      refine gj_aload_n C dX2_carry_51 rfl ?_
      refine gj_get C dX2_carry_52 hW.1.1 rfl inX2 1 (by decide) w_22 rfl ?_
      refine gj_alen C 1 dX2_carry_55 hW.1.2.1 rfl ?_
      refine gj_icmp_geT (tgt := 138) C dX2_carry_56 (by decide) (by rw [show i = n by omega]; exact Int32.le_refl _) ?_
      refine gj_iload C dX2_carry_138 rfl ?_
      exact gj_iret C hr hlk dX2_carry_140 (⟨by rw [cbE_none hd 4096 (by omega), show i = n by omega], by rw [← mapI_end (φ := (phM r1 r2)) hd]; exact ⟨_, hE, hM, k, g, mf, ar, hW⟩⟩)
    | succ d ih =>
      intro i f g hid hW ha hb
      have hj : i < n := by omega
      cases hei : en i with
      | none =>
        refine gj_iload C dX2_carry_49 rfl ?_
        refine gj_aload_n C dX2_carry_51 rfl ?_
        refine gj_get C dX2_carry_52 hW.1.1 rfl inX2 1 (by decide) w_22 rfl ?_
        refine gj_alen C 1 dX2_carry_55 hW.1.2.1 rfl ?_
        refine gj_icmp_geF (tgt := 138) C dX2_carry_56 (by decide) (nI_ge hj (by omega)) ?_
        refine gj_aload_n C dX2_carry_59 rfl ?_
        refine gj_get C dX2_carry_60 hW.1.1 rfl inX2 1 (by decide) w_22 rfl ?_
        refine gj_iload C dX2_carry_63 rfl ?_
        refine gj_aaldN C 1 dX2_carry_65 hW.1.2.1 rfl hj (by omega) ?_
        refine gj_st (st' := [.null]) (by rw [rpw_no hW hj (mapI_at.trans hei)]; rfl) ?_
        refine gj_astoreN (lw' := [some (.ref x), some (.ref a), some (.ref b), some (.int (r2.2.1 - r1.2.1)), some (.int (r2.2.2.1 - r1.2.2.1)), some (.int (nI (cbE (chM r1 r2) en i))), some (.int (nI i)), some (.null)]) C dX2_carry_66 (by decide) rfl rfl ?_
        refine gj_aloadN C dX2_carry_68 rfl ?_
        refine gj_ifnullN (tgt := 106) C dX2_carry_70 (by decide) ?_
        refine gj_aloadN C dX2_carry_106 rfl ?_
        refine gj_ifnullN (tgt := 132) C dX2_carry_108 (by decide) ?_
        refine gj_iinc (v := (nI (i + 1))) (lw' := [some (.ref x), some (.ref a), some (.ref b), some (.int (r2.2.1 - r1.2.1)), some (.int (r2.2.2.1 - r1.2.2.1)), some (.int (nI (cbE (chM r1 r2) en i))), some (.int (nI (i + 1))), some (.null)]) C dX2_carry_132 rfl (nI_1 i) (by decide) rfl rfl ?_
        refine gj_goto (tgt := 49) C dX2_carry_135 (by decide) ?_
        refine gj_un 7 (lw' := [some (.ref x), some (.ref a), some (.ref b), some (.int (r2.2.1 - r1.2.1)), some (.int (r2.2.2.1 - r1.2.2.1)), some (.int (nI (cbE (chM r1 r2) en i))), some (.int (nI (i + 1))), none]) rfl ?_
        have h9 := ih (i + 1) f g (by omega) (by rw [mapI_n hei]; exact hW) ha hb
        rw [cb_n hei] at h9
        exact h9
      | some e0 =>
        obtain ⟨z, z1, z2, z3⟩ := rpw_at hW hj (mapI_at.trans hei)
        refine gj_iload C dX2_carry_49 rfl ?_
        refine gj_aload_n C dX2_carry_51 rfl ?_
        refine gj_get C dX2_carry_52 hW.1.1 rfl inX2 1 (by decide) w_22 rfl ?_
        refine gj_alen C 1 dX2_carry_55 hW.1.2.1 rfl ?_
        refine gj_icmp_geF (tgt := 138) C dX2_carry_56 (by decide) (nI_ge hj (by omega)) ?_
        refine gj_aload_n C dX2_carry_59 rfl ?_
        refine gj_get C dX2_carry_60 hW.1.1 rfl inX2 1 (by decide) w_22 rfl ?_
        refine gj_iload C dX2_carry_63 rfl ?_
        refine gj_aaldN C 1 dX2_carry_65 hW.1.2.1 rfl hj (by omega) ?_
        refine gj_st (st' := [.ref z]) (by rw [z1]; rfl) ?_
        refine gj_astore (lw' := [some (.ref x), some (.ref a), some (.ref b), some (.int (r2.2.1 - r1.2.1)), some (.int (r2.2.2.1 - r1.2.2.1)), some (.int (nI (cbE (chM r1 r2) en i))), some (.int (nI i)), some (.ref z)]) C dX2_carry_66 (by decide) rfl rfl ?_
        refine gj_aload C dX2_carry_68 rfl ?_
        refine gj_ifnull C dX2_carry_70 ?_
        refine gj_aload C dX2_carry_73 rfl ?_
        refine gj_getN C dX2_carry_75 z2 rfl inX1 0 (by decide) (hV.2.1 _ nw_8) rfl ?_
        refine gj_aload_n C dX2_carry_78 rfl ?_
        refine gj_cVN (As := [.ref a]) (rest := []) (nc := 0) (ns := 0) C hV (k_Area_liesIn l D (tyl cI cN cZ cJ) f (ar i) a e0.1 r1 z3 ha) dX2_carry_79 rfl w_322 rfl nw_17 w_3 w_321 ws_15 hd_X0_liesIn rfl z3 rfl ⟨Nat.le_of_ble_eq_true rfl, Nat.le_of_ble_eq_true rfl⟩ (Nat.le_of_ble_eq_true rfl) (by decide) (by decide) (fun v u hp1 => ?_)
        refine gj_rt (st' := [.int (bI (decide (rIn e0.1 r1)))]) hp1.1 hp1.2 rfl ?_
        refine gj_if_eq (tgt := 106) C dX2_carry_82 (by decide) (fun c2 => ?_) (fun c2 => ?_)
        · refine gj_aload C dX2_carry_106 rfl ?_
          refine gj_ifnull C dX2_carry_108 ?_
          refine gj_aload C dX2_carry_111 rfl ?_
          refine gj_getN C dX2_carry_113 z2 rfl inX1 0 (by decide) (hV.2.1 _ nw_8) rfl ?_
          refine gj_aload_n C dX2_carry_116 rfl ?_
          refine gj_cVN (As := [.ref b]) (rest := []) (nc := 0) (ns := 0) C hV (k_Area_liesIn l D (tyl cI cN cZ cJ) f (ar i) b e0.1 r2 z3 hb) dX2_carry_117 rfl w_322 rfl nw_17 w_3 w_321 ws_15 hd_X0_liesIn rfl z3 rfl ⟨Nat.le_of_ble_eq_true rfl, Nat.le_of_ble_eq_true rfl⟩ (Nat.le_of_ble_eq_true rfl) (by decide) (by decide) (fun v u hp3 => ?_)
          refine gj_rt (st' := [.int (bI (decide (rIn e0.1 r2)))]) hp3.1 hp3.2 rfl ?_
          refine gj_if_eq (tgt := 132) C dX2_carry_120 (by decide) (fun c4 => ?_) (fun c4 => ?_)
          · refine gj_iinc (v := (nI (i + 1))) (lw' := [some (.ref x), some (.ref a), some (.ref b), some (.int (r2.2.1 - r1.2.1)), some (.int (r2.2.2.1 - r1.2.2.1)), some (.int (nI (cbE (chM r1 r2) en i))), some (.int (nI (i + 1))), some (.ref z)]) C dX2_carry_132 rfl (nI_1 i) (by decide) rfl rfl ?_
            refine gj_goto (tgt := 49) C dX2_carry_135 (by decide) ?_
            refine gj_un 7 (lw' := [some (.ref x), some (.ref a), some (.ref b), some (.int (r2.2.1 - r1.2.1)), some (.int (r2.2.2.1 - r1.2.2.1)), some (.int (nI (cbE (chM r1 r2) en i))), some (.int (nI (i + 1))), none]) rfl ?_
            have h9 := ih (i + 1) f g (by omega) (by rw [mapI_k hei (phM_3 (bI_p0 c2) (bI_p0 c4))]; exact hW) ha hb
            rw [cb_f hei (chM_3 (bI_p0 c2) (bI_p0 c4))] at h9
            exact h9
          · refine gj_aload_n C dX2_carry_123 rfl ?_
            refine gj_iload C dX2_carry_124 rfl ?_
            refine gj_cV (As := [.int (nI i)]) (rest := []) (nc := 0) (ns := 0) C hV (k_release l D cI cN cZ cJ f x (some a) hE hM _ _ n g i z hW.1.1 hW.1.2.1 hn hj z1) dX2_carry_126 rfl w_93 rfl w_90 w_1 w_92 ws_1 hd_X2_release rfl hW.1.1 rfl ⟨Nat.le_of_ble_eq_true rfl, Nat.le_of_ble_eq_true rfl⟩ (Nat.le_of_ble_eq_true rfl) (by decide) (by decide) (fun v u hp5 => ?_)
            refine gj_rt (f := (gm_up (gm_up f hE (aE cN n (va_up g i none))) x (cRR (some a) hE (nI (cn (mapI (phM r1 r2) en i) n) - 1) hM (nI ml.length)))) (st' := []) hp5.1 hp5.2 rfl ?_
            refine gj_iinc (v := (nI ((cbE (chM r1 r2) en i) + 1))) (lw' := [some (.ref x), some (.ref a), some (.ref b), some (.int (r2.2.1 - r1.2.1)), some (.int (r2.2.2.1 - r1.2.2.1)), some (.int (nI ((cbE (chM r1 r2) en i) + 1))), some (.int (nI i)), some (.ref z)]) C dX2_carry_129 rfl (nI_1 (cbE (chM r1 r2) en i)) (by decide) rfl rfl ?_
            refine gj_iinc (v := (nI (i + 1))) (lw' := [some (.ref x), some (.ref a), some (.ref b), some (.int (r2.2.1 - r1.2.1)), some (.int (r2.2.2.1 - r1.2.2.1)), some (.int (nI ((cbE (chM r1 r2) en i) + 1))), some (.int (nI (i + 1))), some (.ref z)]) C dX2_carry_132 rfl (nI_1 i) (by decide) rfl rfl ?_
            refine gj_goto (tgt := 49) C dX2_carry_135 (by decide) ?_
            refine gj_un 7 (lw' := [some (.ref x), some (.ref a), some (.ref b), some (.int (r2.2.1 - r1.2.1)), some (.int (r2.2.2.1 - r1.2.2.1)), some (.int (nI ((cbE (chM r1 r2) en i) + 1))), some (.int (nI (i + 1))), none]) rfl ?_
            have h9 := ih (i + 1) _ _ (by omega) (by rw [mapI_s hei, phM_2 (bI_p0 c2) (bI_p1 c4)]; exact rpw_rel hW hj (mapI_at.trans hei)) ((gm_up_ne (gm_ne ha hW.1.1 (by simp))).trans ((gm_up_ne (gm_ne ha hW.1.2.1 (by simp))).trans ha)) ((gm_up_ne (gm_ne hb hW.1.1 (by simp))).trans ((gm_up_ne (gm_ne hb hW.1.2.1 (by simp))).trans hb))
            rw [cb_t hei (chM_2 hns (bI_p1 c4))] at h9
            exact h9
        · refine gj_aload C dX2_carry_85 rfl ?_
          refine gj_getN C dX2_carry_87 z2 rfl inX1 0 (by decide) (hV.2.1 _ nw_8) rfl ?_
          refine gj_aload_n C dX2_carry_90 rfl ?_
          refine gj_getN C dX2_carry_91 hb rfl inX0 0 (by decide) (hV.2.1 _ nw_1) rfl ?_
          refine gj_iload_n C dX2_carry_94 rfl ?_
          refine gj_iload C dX2_carry_95 rfl ?_
          refine gj_cVN (As := [.int r2.1, .int (r2.2.1 - r1.2.1), .int (r2.2.2.1 - r1.2.2.1)]) (rest := []) (nc := 0) (ns := 0) C hV (k_Area_shift l D (tyl cI cN cZ cJ) f (ar i) e0.1 r2.1 (r2.2.1 - r1.2.1) (r2.2.2.1 - r1.2.2.1) z3) dX2_carry_97 rfl w_313 rfl nw_16 w_3 w_312 ws_13 hd_X0_shift rfl z3 rfl ⟨Nat.le_of_ble_eq_true rfl, Nat.le_of_ble_eq_true rfl⟩ (Nat.le_of_ble_eq_true rfl) (by decide) (by decide) (fun v u hp6 => ?_)
          refine gj_rt (f := (gm_up f (ar i) (cAr (rM r2.1 (r2.2.1 - r1.2.1) (r2.2.2.1 - r1.2.2.1) e0.1)))) (st' := []) hp6.1 hp6.2 rfl ?_
          refine gj_iinc (v := (nI ((cbE (chM r1 r2) en i) + 1))) (lw' := [some (.ref x), some (.ref a), some (.ref b), some (.int (r2.2.1 - r1.2.1)), some (.int (r2.2.2.1 - r1.2.2.1)), some (.int (nI ((cbE (chM r1 r2) en i) + 1))), some (.int (nI i)), some (.ref z)]) C dX2_carry_100 rfl (nI_1 (cbE (chM r1 r2) en i)) (by decide) rfl rfl ?_
          refine gj_goto (tgt := 132) C dX2_carry_103 (by decide) ?_
          refine gj_iinc (v := (nI (i + 1))) (lw' := [some (.ref x), some (.ref a), some (.ref b), some (.int (r2.2.1 - r1.2.1)), some (.int (r2.2.2.1 - r1.2.2.1)), some (.int (nI ((cbE (chM r1 r2) en i) + 1))), some (.int (nI (i + 1))), some (.ref z)]) C dX2_carry_132 rfl (nI_1 i) (by decide) rfl rfl ?_
          refine gj_goto (tgt := 49) C dX2_carry_135 (by decide) ?_
          refine gj_un 7 (lw' := [some (.ref x), some (.ref a), some (.ref b), some (.int (r2.2.1 - r1.2.1)), some (.int (r2.2.2.1 - r1.2.2.1)), some (.int (nI ((cbE (chM r1 r2) en i) + 1))), some (.int (nI (i + 1))), none]) rfl ?_
          have h9 := ih (i + 1) _ g (by omega) (by rw [mapI_s hei, phM_1 (bI_p1 c2)]; exact rpw_area hW hj (mapI_at.trans hei) _) ((gm_up_ne (fun h => hW.2.2.1.2 i hj (by rw [mapI_at, hei]; exact fun z => by cases z) (by rw [h]))).trans ha) ((gm_up_ne (fun h => hbn i hj (by rw [hei]; exact fun z => by cases z) h.symm)).trans hb)
          rw [cb_t hei (chM_1 hns (bI_p1 c2))] at h9
          exact h9
  refine gj_aload_n C dX2_carry_0 rfl ?_
  refine gj_getN C dX2_carry_1 hb rfl inX0 1 (by decide) (hV.2.1 _ nw_2) rfl ?_
  refine gj_aload_n C dX2_carry_4 rfl ?_
  refine gj_getN C dX2_carry_5 ha rfl inX0 1 (by decide) (hV.2.1 _ nw_2) rfl ?_
  refine gj_isub C dX2_carry_8 ?_
  refine gj_istore_n (lw' := [some (.ref x), some (.ref a), some (.ref b), some (.int (r2.2.1 - r1.2.1)), none, none, none, none]) C dX2_carry_9 (by decide) rfl rfl ?_
  refine gj_aload_n C dX2_carry_10 rfl ?_
  refine gj_getN C dX2_carry_11 hb rfl inX0 2 (by decide) (hV.2.1 _ nw_3) rfl ?_
  refine gj_aload_n C dX2_carry_14 rfl ?_
  refine gj_getN C dX2_carry_15 ha rfl inX0 2 (by decide) (hV.2.1 _ nw_3) rfl ?_
  refine gj_isub C dX2_carry_18 ?_
  refine gj_istore (lw' := [some (.ref x), some (.ref a), some (.ref b), some (.int (r2.2.1 - r1.2.1)), some (.int (r2.2.2.1 - r1.2.2.1)), none, none, none]) C dX2_carry_19 (by decide) rfl rfl ?_
  refine gj_aload_n C dX2_carry_21 rfl ?_
  refine gj_getN C dX2_carry_22 hb rfl inX0 0 (by decide) (hV.2.1 _ nw_1) rfl ?_
  refine gj_aload_n C dX2_carry_25 rfl ?_
  refine gj_getN C dX2_carry_26 ha rfl inX0 0 (by decide) (hV.2.1 _ nw_1) rfl ?_
  refine gj_icmp_ne (tgt := 43) C dX2_carry_29 (by decide) (fun c7 => ?_) (fun c7 => ?_)
  · refine gj_iconst (v := 0) C dX2_carry_43 (by decide) ?_
    refine gj_istore (lw' := [some (.ref x), some (.ref a), some (.ref b), some (.int (r2.2.1 - r1.2.1)), some (.int (r2.2.2.1 - r1.2.2.1)), some (.int 0), none, none]) C dX2_carry_44 (by decide) rfl rfl ?_
    refine gj_iconst (v := 0) C dX2_carry_46 (by decide) ?_
    refine gj_istore (lw' := [some (.ref x), some (.ref a), some (.ref b), some (.int (r2.2.1 - r1.2.1)), some (.int (r2.2.2.1 - r1.2.2.1)), some (.int 0), some (.int 0), none]) C dX2_carry_47 (by decide) rfl rfl ?_
    exact loop (fun h => c7 h.1) n 0 f g (by omega) (by rw [mapI_0]; exact hW) ha hb
  · refine gj_iload_n C dX2_carry_32 rfl ?_
    refine gj_if_ne (tgt := 43) C dX2_carry_33 (by decide) (fun c8 => ?_) (fun c8 => ?_)
    · refine gj_iconst (v := 0) C dX2_carry_43 (by decide) ?_
      refine gj_istore (lw' := [some (.ref x), some (.ref a), some (.ref b), some (.int (r2.2.1 - r1.2.1)), some (.int (r2.2.2.1 - r1.2.2.1)), some (.int 0), none, none]) C dX2_carry_44 (by decide) rfl rfl ?_
      refine gj_iconst (v := 0) C dX2_carry_46 (by decide) ?_
      refine gj_istore (lw' := [some (.ref x), some (.ref a), some (.ref b), some (.int (r2.2.1 - r1.2.1)), some (.int (r2.2.2.1 - r1.2.2.1)), some (.int 0), some (.int 0), none]) C dX2_carry_47 (by decide) rfl rfl ?_
      exact loop (fun h => c8 h.2.1) n 0 f g (by omega) (by rw [mapI_0]; exact hW) ha hb
    · refine gj_iload C dX2_carry_36 rfl ?_
      refine gj_if_ne (tgt := 43) C dX2_carry_38 (by decide) (fun c9 => ?_) (fun c9 => ?_)
      · refine gj_iconst (v := 0) C dX2_carry_43 (by decide) ?_
        refine gj_istore (lw' := [some (.ref x), some (.ref a), some (.ref b), some (.int (r2.2.1 - r1.2.1)), some (.int (r2.2.2.1 - r1.2.2.1)), some (.int 0), none, none]) C dX2_carry_44 (by decide) rfl rfl ?_
        refine gj_iconst (v := 0) C dX2_carry_46 (by decide) ?_
        refine gj_istore (lw' := [some (.ref x), some (.ref a), some (.ref b), some (.int (r2.2.1 - r1.2.1)), some (.int (r2.2.2.1 - r1.2.2.1)), some (.int 0), some (.int 0), none]) C dX2_carry_47 (by decide) rfl rfl ?_
        exact loop (fun h => c9 h.2.2) n 0 f g (by omega) (by rw [mapI_0]; exact hW) ha hb
      · refine gj_iconst (v := 0) C dX2_carry_41 (by decide) ?_
        exact gj_iret C hr hlk dX2_carry_42 (⟨by rw [cbE_0 (chM_0 ⟨c7, c8, c9⟩)] <;> rfl, by rw [mapE_id (phM_same ⟨c7, c8, c9⟩ (hS ⟨c7, c8, c9⟩))]; exact ⟨_, hE, hM, k, g, mf, ar, hW⟩⟩)
