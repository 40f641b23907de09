/-! RangeReaders: insert, delete, move. By gen/m25.py. -/
set_option maxRecDepth 100000 in
set_option maxHeartbeats 4000000 in
theorem k_insert (l : Launch) (hl : l.stackTraces = false) (D : va_G) (cI cN cZ cJ : ClassId) (f : gm) (x : Nat) (nx : Option Rc) (en : Nat → Option En) (n : Nat) (ml : List Nat) (sh : Int32) (cs : Bool) (at0 num : Int32) (hR : Rp cI cN f x nx en n ml) (hval : ∀ j e, en j = some e → vr e.1) : gkx l yX2_insert (.code yX2_insert cX2_insert 13 (Option.some Jvm.ClassFile.FieldType.int)) (rmk 5 1 6) D (tyl cI cN cZ cJ) [.ref x, .int sh, .int (bI cs), .int at0, .int num] f (fun v u => vn sh cs at0 num ∧ v = some (.int (nI (cbE (chI sh cs at0 num) en 4096))) ∧ Rp cI cN u x nx (mapE (phI sh cs at0 num) en) n ml) (fun E u => ¬ vn sh cs at0 num ∧ E = xIA ∧ Rp cI cN u x nx en n ml) := by
  refine gkx_of [some (.ref x), some (.int sh), some (.int (bI cs)), some (.int at0), some (.int num), none, none, none, none, none, none, none, none] (by decide) rfl (Nat.le_of_ble_eq_true rfl) rfl ?_
  intro p e s m args below meth c A C hV hr hlk hnm hV2 hZ hT
  have hd : ∀ j, n ≤ j → en j = none := hR.bd.1
  have hn : n ≤ 1024 := hR.bd.2.1
  have loop : vn sh cs at0 num → ∀ (d i : Nat) (f : gm), i + d = n → Rp cI cN f x nx (mapI (phI sh cs at0 num) en i) n ml → gj p l e (rmk 5 1 6) s m args below meth c D vwCl A 13 (vx_MQ below (gk_Q (fun v u => vn sh cs at0 num ∧ v = some (.int (nI (cbE (chI sh cs at0 num) en 4096))) ∧ Rp cI cN u x nx (mapE (phI sh cs at0 num) en) n ml) D A) (gkx_X (fun E u => ¬ vn sh cs at0 num ∧ E = xIA ∧ Rp cI cN u x nx en n ml) D A) args s (rmk 5 1 6).cells (rmk 5 1 6).slots A) f 0 0 33 [some (.ref x), some (.int sh), some (.int (bI cs)), some (.int at0), some (.int num), some (.int (ll cs)), some (.int (nI (cbE (chI sh cs at0 num) en i))), some (.int (nI i)), none, none, none, none, none] [] := by
    intro hok d
    induction d with
    | zero =>
      intro i f hid hR
      rw [show mapI (phI sh cs at0 num) en i = mapI (phI sh cs at0 num) en n by rw [show i = n by omega]] at hR
      obtain ⟨q, hE, hM, k, g, mf, ar, hW⟩ := id hR
      refine gj_iload C dX2_insert_33 rfl ?_
      refine gj_aload_n C dX2_insert_35 rfl ?_
      refine gj_get C dX2_insert_36 hW.1.1 rfl inX2 1 (by decide) w_22 rfl ?_
      refine gj_alen C 1 dX2_insert_39 hW.1.2.1 rfl ?_
      refine gj_icmp_geT (tgt := 155) C dX2_insert_40 (by decide) (by rw [show i = n by omega]; exact Int32.le_refl _) ?_
      refine gj_iload C dX2_insert_155 rfl ?_
      exact gj_vx (gj_iret C hr hlk dX2_insert_157 (⟨hok, by rw [cbE_none hd 4096 (by omega), show i = n by omega], by rw [← mapI_end (φ := (phI sh cs at0 num)) hd]; exact hR⟩))
    | succ d ih =>
      intro i f hid hR
      have hj : i < n := by omega
      obtain ⟨q, hE, hM, k, g, mf, ar, hW⟩ := id hR
      cases hei : en i with
      | none =>
        refine gj_iload C dX2_insert_33 rfl ?_
        refine gj_aload_n C dX2_insert_35 rfl ?_
        refine gj_get C dX2_insert_36 hW.1.1 rfl inX2 1 (by decide) w_22 rfl ?_
        refine gj_alen C 1 dX2_insert_39 hW.1.2.1 rfl ?_
        refine gj_icmp_geF (tgt := 155) C dX2_insert_40 (by decide) (nI_ge hj (by omega)) ?_
        refine gj_aload_n C dX2_insert_43 rfl ?_
        refine gj_get C dX2_insert_44 hW.1.1 rfl inX2 1 (by decide) w_22 rfl ?_
        refine gj_iload C dX2_insert_47 rfl ?_
        refine gj_aaldN C 1 dX2_insert_49 hW.1.2.1 rfl hj (by omega) ?_
        refine gj_st (st' := [.null]) (by rw [rpw_no hW hj (mapI_at.trans hei)]; rfl) ?_
        refine gj_astoreN (lw' := [some (.ref x), some (.int sh), some (.int (bI cs)), some (.int at0), some (.int num), some (.int (ll cs)), some (.int (nI (cbE (chI sh cs at0 num) en i))), some (.int (nI i)), some (.null), none, none, none, none]) C dX2_insert_50 (by decide) rfl rfl ?_
        refine gj_aloadN C dX2_insert_52 rfl ?_
        refine gj_ifnullN (tgt := 149) C dX2_insert_54 (by decide) ?_
        refine gj_iinc (v := (nI (i + 1))) (lw' := [some (.ref x), some (.int sh), some (.int (bI cs)), some (.int at0), some (.int num), some (.int (ll cs)), some (.int (nI (cbE (chI sh cs at0 num) en i))), some (.int (nI (i + 1))), some (.null), none, none, none, none]) C dX2_insert_149 rfl (nI_1 i) (by decide) rfl rfl ?_
        refine gj_goto (tgt := 33) C dX2_insert_152 (by decide) ?_
        refine gj_un 8 (lw' := [some (.ref x), some (.int sh), some (.int (bI cs)), some (.int at0), some (.int num), some (.int (ll cs)), some (.int (nI (cbE (chI sh cs at0 num) en i))), some (.int (nI (i + 1))), none, none, none, none, none]) rfl ?_
        have h9 := ih (i + 1) f (by omega) (by rw [mapI_n hei]; exact hR)
        rw [cb_n hei] at h9
        exact h9
      | some e0 =>
        obtain ⟨z, z1, z2, z3⟩ := rpw_at hW hj (mapI_at.trans hei)
        refine gj_iload C dX2_insert_33 rfl ?_
        refine gj_aload_n C dX2_insert_35 rfl ?_
        refine gj_get C dX2_insert_36 hW.1.1 rfl inX2 1 (by decide) w_22 rfl ?_
        refine gj_alen C 1 dX2_insert_39 hW.1.2.1 rfl ?_
        refine gj_icmp_geF (tgt := 155) C dX2_insert_40 (by decide) (nI_ge hj (by omega)) ?_
        refine gj_aload_n C dX2_insert_43 rfl ?_
        refine gj_get C dX2_insert_44 hW.1.1 rfl inX2 1 (by decide) w_22 rfl ?_
        refine gj_iload C dX2_insert_47 rfl ?_
        refine gj_aaldN C 1 dX2_insert_49 hW.1.2.1 rfl hj (by omega) ?_
        refine gj_st (st' := [.ref z]) (by rw [z1]; rfl) ?_
        refine gj_astore (lw' := [some (.ref x), some (.int sh), some (.int (bI cs)), some (.int at0), some (.int num), some (.int (ll cs)), some (.int (nI (cbE (chI sh cs at0 num) en i))), some (.int (nI i)), some (.ref z), none, none, none, none]) C dX2_insert_50 (by decide) rfl rfl ?_
        refine gj_aload C dX2_insert_52 rfl ?_
        refine gj_ifnull C dX2_insert_54 ?_
        refine gj_aload C dX2_insert_57 rfl ?_
        refine gj_getN C dX2_insert_59 z2 rfl inX1 0 (by decide) (hV.2.1 _ nw_8) rfl ?_
        refine gj_iload_n C dX2_insert_62 rfl ?_
        refine gj_iload_n C dX2_insert_63 rfl ?_
        refine gj_cVN (As := [.int sh, .int (bI cs)]) (rest := []) (nc := 0) (ns := 0) C hV (k_Area_yieldsTo l D (tyl cI cN cZ cJ) f (ar i) e0.1 sh cs z3) dX2_insert_64 rfl w_272 rfl nw_11 w_3 w_271 ws_8 hd_X0_yieldsTo rfl z3 rfl ⟨Nat.le_of_ble_eq_true rfl, Nat.le_of_ble_eq_true rfl⟩ (Nat.le_of_ble_eq_true rfl) (by decide) (by decide) (fun v u hp1 => ?_)
        refine gj_rt (st' := [.int (bI (decide (rY sh cs e0.1)))]) hp1.1 hp1.2 rfl ?_
        refine gj_if_eq (tgt := 149) C dX2_insert_67 (by decide) (fun c2 => ?_) (fun c2 => ?_)
        · refine gj_iinc (v := (nI (i + 1))) (lw' := [some (.ref x), some (.int sh), some (.int (bI cs)), some (.int at0), some (.int num), some (.int (ll cs)), some (.int (nI (cbE (chI sh cs at0 num) en i))), some (.int (nI (i + 1))), some (.ref z), none, none, none, none]) C dX2_insert_149 rfl (nI_1 i) (by decide) rfl rfl ?_
          refine gj_goto (tgt := 33) C dX2_insert_152 (by decide) ?_
          refine gj_un 8 (lw' := [some (.ref x), some (.int sh), some (.int (bI cs)), some (.int at0), some (.int num), some (.int (ll cs)), some (.int (nI (cbE (chI sh cs at0 num) en i))), some (.int (nI (i + 1))), none, none, none, none, none]) rfl ?_
          have h9 := ih (i + 1) f (by omega) (by rw [mapI_k hei (phI_n (bI_p0 c2))]; exact hR)
          rw [cb_f hei (chI_n (bI_p0 c2))] at h9
          exact h9
        · refine gj_aload C dX2_insert_70 rfl ?_
          refine gj_getN C dX2_insert_72 z2 rfl inX1 0 (by decide) (hV.2.1 _ nw_8) rfl ?_
          refine gj_iload_n C dX2_insert_75 rfl ?_
          refine gj_cVN (As := [.int (bI cs)]) (rest := []) (nc := 0) (ns := 0) C hV (k_Area_first l D (tyl cI cN cZ cJ) f (ar i) e0.1 cs z3) dX2_insert_76 rfl w_276 rfl nw_13 w_3 w_275 ws_9 hd_X0_first rfl z3 rfl ⟨Nat.le_of_ble_eq_true rfl, Nat.le_of_ble_eq_true rfl⟩ (Nat.le_of_ble_eq_true rfl) (by decide) (by decide) (fun v u hp3 => ?_)
          refine gj_rt (st' := [.int (rF cs e0.1)]) hp3.1 hp3.2 rfl ?_
          refine gj_istore (lw' := [some (.ref x), some (.int sh), some (.int (bI cs)), some (.int at0), some (.int num), some (.int (ll cs)), some (.int (nI (cbE (chI sh cs at0 num) en i))), some (.int (nI i)), some (.ref z), some (.int (rF cs e0.1)), none, none, none]) C dX2_insert_79 (by decide) rfl rfl ?_
          refine gj_aload C dX2_insert_81 rfl ?_
          refine gj_getN C dX2_insert_83 z2 rfl inX1 0 (by decide) (hV.2.1 _ nw_8) rfl ?_
          refine gj_iload_n C dX2_insert_86 rfl ?_
          refine gj_cVN (As := [.int (bI cs)]) (rest := []) (nc := 0) (ns := 0) C hV (k_Area_last l D (tyl cI cN cZ cJ) f (ar i) e0.1 cs z3) dX2_insert_87 rfl w_280 rfl nw_14 w_3 w_279 ws_10 hd_X0_last rfl z3 rfl ⟨Nat.le_of_ble_eq_true rfl, Nat.le_of_ble_eq_true rfl⟩ (Nat.le_of_ble_eq_true rfl) (by decide) (by decide) (fun v u hp4 => ?_)
          refine gj_rt (st' := [.int (rL cs e0.1)]) hp4.1 hp4.2 rfl ?_
          refine gj_istore (lw' := [some (.ref x), some (.int sh), some (.int (bI cs)), some (.int at0), some (.int num), some (.int (ll cs)), some (.int (nI (cbE (chI sh cs at0 num) en i))), some (.int (nI i)), some (.ref z), some (.int (rF cs e0.1)), some (.int (rL cs e0.1)), none, none]) C dX2_insert_90 (by decide) rfl rfl ?_
          refine gj_iload C dX2_insert_92 rfl ?_
          refine gj_iload_n C dX2_insert_94 rfl ?_
          refine gj_icmp_ge (tgt := 103) C dX2_insert_95 (by decide) (fun c5 => ?_) (fun c5 => ?_)
          · refine gj_iload C dX2_insert_103 rfl ?_
            refine gj_iload C dX2_insert_105 rfl ?_
            refine gj_iadd C dX2_insert_107 ?_
            refine gj_istore (lw' := [some (.ref x), some (.int sh), some (.int (bI cs)), some (.int at0), some (.int num), some (.int (ll cs)), some (.int (nI (cbE (chI sh cs at0 num) en i))), some (.int (nI i)), some (.ref z), some (.int (rF cs e0.1)), some (.int (rL cs e0.1)), some (.int ((rF cs e0.1) + num)), none]) C dX2_insert_108 (by decide) rfl rfl ?_
            refine gj_iload C dX2_insert_110 rfl ?_
            refine gj_iload_n C dX2_insert_112 rfl ?_
            refine gj_icmp_ge (tgt := 121) C dX2_insert_113 (by decide) (fun c6 => ?_) (fun c6 => ?_)
            · refine gj_iload C dX2_insert_121 rfl ?_
              refine gj_iload C dX2_insert_123 rfl ?_
              refine gj_iadd C dX2_insert_125 ?_
              refine gj_iload C dX2_insert_126 rfl ?_
              refine gj_mmin C dX2_insert_128 w_208 w_209 w_9 w_210 (Nat.le_of_ble_eq_true rfl) (Nat.le_of_ble_eq_true rfl) ?_
              refine gj_istore (lw' := [some (.ref x), some (.int sh), some (.int (bI cs)), some (.int at0), some (.int num), some (.int (ll cs)), some (.int (nI (cbE (chI sh cs at0 num) en i))), some (.int (nI i)), some (.ref z), some (.int (rF cs e0.1)), some (.int (rL cs e0.1)), some (.int ((rF cs e0.1) + num)), some (.int (if (ll cs) < ((rL cs e0.1) + num) then (ll cs) else ((rL cs e0.1) + num)))]) C dX2_insert_131 (by decide) rfl rfl ?_
              refine gj_iload C dX2_insert_133 rfl ?_
              refine gj_aload_n C dX2_insert_135 rfl ?_
              refine gj_iload C dX2_insert_136 rfl ?_
              refine gj_iload_n C dX2_insert_138 rfl ?_
              refine gj_iload C dX2_insert_139 rfl ?_
              refine gj_iload C dX2_insert_141 rfl ?_
              refine gj_cV (As := [.int (nI i), .int (bI cs), .int ((rF cs e0.1) + num), .int (if (ll cs) < ((rL cs e0.1) + num) then (ll cs) else ((rL cs e0.1) + num))]) (rest := [.int (nI (cbE (chI sh cs at0 num) en i))]) (nc := 0) (ns := 0) C hV (k_putLines l D cI cN cZ cJ f x nx _ n ml i e0 cs ((rF cs e0.1) + num) (if (ll cs) < ((rL cs e0.1) + num) then (ll cs) else ((rL cs e0.1) + num)) hR hj (mapI_at.trans hei) (vr_le (hval i e0 hei) cs)) dX2_insert_143 rfl w_287 rfl w_284 w_1 w_286 ws_11 hd_X2_putLines rfl hW.1.1 rfl ⟨Nat.le_of_ble_eq_true rfl, Nat.le_of_ble_eq_true rfl⟩ (Nat.le_of_ble_eq_true rfl) (by decide) (by decide) (fun v u hp => ?_)
              obtain ⟨hv, hR2⟩ := hp
              refine gj_rt (f := u) (st' := [.int (bI (decide (¬ (((rF cs e0.1) + num) = rF cs e0.1 ∧ (if (ll cs) < ((rL cs e0.1) + num) then (ll cs) else ((rL cs e0.1) + num)) = rL cs e0.1)))), .int (nI (cbE (chI sh cs at0 num) en i))]) hv rfl rfl ?_
              refine gj_iadd C dX2_insert_146 ?_
              refine gj_istore (lw' := [some (.ref x), some (.int sh), some (.int (bI cs)), some (.int at0), some (.int num), some (.int (ll cs)), some (.int ((nI (cbE (chI sh cs at0 num) en i)) + (bI (decide (¬ (((rF cs e0.1) + num) = rF cs e0.1 ∧ (if (ll cs) < ((rL cs e0.1) + num) then (ll cs) else ((rL cs e0.1) + num)) = rL cs e0.1)))))), some (.int (nI i)), some (.ref z), some (.int (rF cs e0.1)), some (.int (rL cs e0.1)), some (.int ((rF cs e0.1) + num)), some (.int (if (ll cs) < ((rL cs e0.1) + num) then (ll cs) else ((rL cs e0.1) + num)))]) C dX2_insert_147 (by decide) rfl rfl ?_
              refine gj_iinc (v := (nI (i + 1))) (lw' := [some (.ref x), some (.int sh), some (.int (bI cs)), some (.int at0), some (.int num), some (.int (ll cs)), some (.int ((nI (cbE (chI sh cs at0 num) en i)) + (bI (decide (¬ (((rF cs e0.1) + num) = rF cs e0.1 ∧ (if (ll cs) < ((rL cs e0.1) + num) then (ll cs) else ((rL cs e0.1) + num)) = rL cs e0.1)))))), some (.int (nI (i + 1))), some (.ref z), some (.int (rF cs e0.1)), some (.int (rL cs e0.1)), some (.int ((rF cs e0.1) + num)), some (.int (if (ll cs) < ((rL cs e0.1) + num) then (ll cs) else ((rL cs e0.1) + num)))]) C dX2_insert_149 rfl (nI_1 i) (by decide) rfl rfl ?_
              refine gj_goto (tgt := 33) C dX2_insert_152 (by decide) ?_
              refine gj_un 8 (lw' := [some (.ref x), some (.int sh), some (.int (bI cs)), some (.int at0), some (.int num), some (.int (ll cs)), some (.int ((nI (cbE (chI sh cs at0 num) en i)) + (bI (decide (¬ (((rF cs e0.1) + num) = rF cs e0.1 ∧ (if (ll cs) < ((rL cs e0.1) + num) then (ll cs) else ((rL cs e0.1) + num)) = rL cs e0.1)))))), some (.int (nI (i + 1))), none, some (.int (rF cs e0.1)), some (.int (rL cs e0.1)), some (.int ((rF cs e0.1) + num)), some (.int (if (ll cs) < ((rL cs e0.1) + num) then (ll cs) else ((rL cs e0.1) + num)))]) rfl ?_
              refine gj_un 9 (lw' := [some (.ref x), some (.int sh), some (.int (bI cs)), some (.int at0), some (.int num), some (.int (ll cs)), some (.int ((nI (cbE (chI sh cs at0 num) en i)) + (bI (decide (¬ (((rF cs e0.1) + num) = rF cs e0.1 ∧ (if (ll cs) < ((rL cs e0.1) + num) then (ll cs) else ((rL cs e0.1) + num)) = rL cs e0.1)))))), some (.int (nI (i + 1))), none, none, some (.int (rL cs e0.1)), some (.int ((rF cs e0.1) + num)), some (.int (if (ll cs) < ((rL cs e0.1) + num) then (ll cs) else ((rL cs e0.1) + num)))]) rfl ?_
              refine gj_un 10 (lw' := [some (.ref x), some (.int sh), some (.int (bI cs)), some (.int at0), some (.int num), some (.int (ll cs)), some (.int ((nI (cbE (chI sh cs at0 num) en i)) + (bI (decide (¬ (((rF cs e0.1) + num) = rF cs e0.1 ∧ (if (ll cs) < ((rL cs e0.1) + num) then (ll cs) else ((rL cs e0.1) + num)) = rL cs e0.1)))))), some (.int (nI (i + 1))), none, none, none, some (.int ((rF cs e0.1) + num)), some (.int (if (ll cs) < ((rL cs e0.1) + num) then (ll cs) else ((rL cs e0.1) + num)))]) rfl ?_
              refine gj_un 11 (lw' := [some (.ref x), some (.int sh), some (.int (bI cs)), some (.int at0), some (.int num), some (.int (ll cs)), some (.int ((nI (cbE (chI sh cs at0 num) en i)) + (bI (decide (¬ (((rF cs e0.1) + num) = rF cs e0.1 ∧ (if (ll cs) < ((rL cs e0.1) + num) then (ll cs) else ((rL cs e0.1) + num)) = rL cs e0.1)))))), some (.int (nI (i + 1))), none, none, none, none, some (.int (if (ll cs) < ((rL cs e0.1) + num) then (ll cs) else ((rL cs e0.1) + num)))]) rfl ?_
              refine gj_un 12 (lw' := [some (.ref x), some (.int sh), some (.int (bI cs)), some (.int at0), some (.int num), some (.int (ll cs)), some (.int ((nI (cbE (chI sh cs at0 num) en i)) + (bI (decide (¬ (((rF cs e0.1) + num) = rF cs e0.1 ∧ (if (ll cs) < ((rL cs e0.1) + num) then (ll cs) else ((rL cs e0.1) + num)) = rL cs e0.1)))))), some (.int (nI (i + 1))), none, none, none, none, none]) rfl ?_
              have h9 := ih (i + 1) u (by omega) (by rw [mapI_s hei, phI_y (bI_p1 c2), insA_t c5, insB_t c6]; exact hR2)
              rw [cb_step hei, chI_y (bI_p1 c2), insA_t c5, insB_t c6] at h9
              exact h9
            · refine gj_iload C dX2_insert_116 rfl ?_
              refine gj_goto (tgt := 131) C dX2_insert_118 (by decide) ?_
              refine gj_istore (lw' := [some (.ref x), some (.int sh), some (.int (bI cs)), some (.int at0), some (.int num), some (.int (ll cs)), some (.int (nI (cbE (chI sh cs at0 num) en i))), some (.int (nI i)), some (.ref z), some (.int (rF cs e0.1)), some (.int (rL cs e0.1)), some (.int ((rF cs e0.1) + num)), some (.int (rL cs e0.1))]) C dX2_insert_131 (by decide) rfl rfl ?_
              refine gj_iload C dX2_insert_133 rfl ?_
              refine gj_aload_n C dX2_insert_135 rfl ?_
              refine gj_iload C dX2_insert_136 rfl ?_
              refine gj_iload_n C dX2_insert_138 rfl ?_
              refine gj_iload C dX2_insert_139 rfl ?_
              refine gj_iload C dX2_insert_141 rfl ?_
              refine gj_cV (As := [.int (nI i), .int (bI cs), .int ((rF cs e0.1) + num), .int (rL cs e0.1)]) (rest := [.int (nI (cbE (chI sh cs at0 num) en i))]) (nc := 0) (ns := 0) C hV (k_putLines l D cI cN cZ cJ f x nx _ n ml i e0 cs ((rF cs e0.1) + num) (rL cs e0.1) hR hj (mapI_at.trans hei) (vr_le (hval i e0 hei) cs)) dX2_insert_143 rfl w_287 rfl w_284 w_1 w_286 ws_11 hd_X2_putLines rfl hW.1.1 rfl ⟨Nat.le_of_ble_eq_true rfl, Nat.le_of_ble_eq_true rfl⟩ (Nat.le_of_ble_eq_true rfl) (by decide) (by decide) (fun v u hp => ?_)
              obtain ⟨hv, hR2⟩ := hp
              refine gj_rt (f := u) (st' := [.int (bI (decide (¬ (((rF cs e0.1) + num) = rF cs e0.1 ∧ (rL cs e0.1) = rL cs e0.1)))), .int (nI (cbE (chI sh cs at0 num) en i))]) hv rfl rfl ?_
              refine gj_iadd C dX2_insert_146 ?_
              refine gj_istore (lw' := [some (.ref x), some (.int sh), some (.int (bI cs)), some (.int at0), some (.int num), some (.int (ll cs)), some (.int ((nI (cbE (chI sh cs at0 num) en i)) + (bI (decide (¬ (((rF cs e0.1) + num) = rF cs e0.1 ∧ (rL cs e0.1) = rL cs e0.1)))))), some (.int (nI i)), some (.ref z), some (.int (rF cs e0.1)), some (.int (rL cs e0.1)), some (.int ((rF cs e0.1) + num)), some (.int (rL cs e0.1))]) C dX2_insert_147 (by decide) rfl rfl ?_
              refine gj_iinc (v := (nI (i + 1))) (lw' := [some (.ref x), some (.int sh), some (.int (bI cs)), some (.int at0), some (.int num), some (.int (ll cs)), some (.int ((nI (cbE (chI sh cs at0 num) en i)) + (bI (decide (¬ (((rF cs e0.1) + num) = rF cs e0.1 ∧ (rL cs e0.1) = rL cs e0.1)))))), some (.int (nI (i + 1))), some (.ref z), some (.int (rF cs e0.1)), some (.int (rL cs e0.1)), some (.int ((rF cs e0.1) + num)), some (.int (rL cs e0.1))]) C dX2_insert_149 rfl (nI_1 i) (by decide) rfl rfl ?_
              refine gj_goto (tgt := 33) C dX2_insert_152 (by decide) ?_
              refine gj_un 8 (lw' := [some (.ref x), some (.int sh), some (.int (bI cs)), some (.int at0), some (.int num), some (.int (ll cs)), some (.int ((nI (cbE (chI sh cs at0 num) en i)) + (bI (decide (¬ (((rF cs e0.1) + num) = rF cs e0.1 ∧ (rL cs e0.1) = rL cs e0.1)))))), some (.int (nI (i + 1))), none, some (.int (rF cs e0.1)), some (.int (rL cs e0.1)), some (.int ((rF cs e0.1) + num)), some (.int (rL cs e0.1))]) rfl ?_
              refine gj_un 9 (lw' := [some (.ref x), some (.int sh), some (.int (bI cs)), some (.int at0), some (.int num), some (.int (ll cs)), some (.int ((nI (cbE (chI sh cs at0 num) en i)) + (bI (decide (¬ (((rF cs e0.1) + num) = rF cs e0.1 ∧ (rL cs e0.1) = rL cs e0.1)))))), some (.int (nI (i + 1))), none, none, some (.int (rL cs e0.1)), some (.int ((rF cs e0.1) + num)), some (.int (rL cs e0.1))]) rfl ?_
              refine gj_un 10 (lw' := [some (.ref x), some (.int sh), some (.int (bI cs)), some (.int at0), some (.int num), some (.int (ll cs)), some (.int ((nI (cbE (chI sh cs at0 num) en i)) + (bI (decide (¬ (((rF cs e0.1) + num) = rF cs e0.1 ∧ (rL cs e0.1) = rL cs e0.1)))))), some (.int (nI (i + 1))), none, none, none, some (.int ((rF cs e0.1) + num)), some (.int (rL cs e0.1))]) rfl ?_
              refine gj_un 11 (lw' := [some (.ref x), some (.int sh), some (.int (bI cs)), some (.int at0), some (.int num), some (.int (ll cs)), some (.int ((nI (cbE (chI sh cs at0 num) en i)) + (bI (decide (¬ (((rF cs e0.1) + num) = rF cs e0.1 ∧ (rL cs e0.1) = rL cs e0.1)))))), some (.int (nI (i + 1))), none, none, none, none, some (.int (rL cs e0.1))]) rfl ?_
              refine gj_un 12 (lw' := [some (.ref x), some (.int sh), some (.int (bI cs)), some (.int at0), some (.int num), some (.int (ll cs)), some (.int ((nI (cbE (chI sh cs at0 num) en i)) + (bI (decide (¬ (((rF cs e0.1) + num) = rF cs e0.1 ∧ (rL cs e0.1) = rL cs e0.1)))))), some (.int (nI (i + 1))), none, none, none, none, none]) rfl ?_
              have h9 := ih (i + 1) u (by omega) (by rw [mapI_s hei, phI_y (bI_p1 c2), insA_t c5, insB_f c6]; exact hR2)
              rw [cb_step hei, chI_y (bI_p1 c2), insA_t c5, insB_f c6] at h9
              exact h9
          · refine gj_iload C dX2_insert_98 rfl ?_
            refine gj_goto (tgt := 108) C dX2_insert_100 (by decide) ?_
            refine gj_istore (lw' := [some (.ref x), some (.int sh), some (.int (bI cs)), some (.int at0), some (.int num), some (.int (ll cs)), some (.int (nI (cbE (chI sh cs at0 num) en i))), some (.int (nI i)), some (.ref z), some (.int (rF cs e0.1)), some (.int (rL cs e0.1)), some (.int (rF cs e0.1)), none]) C dX2_insert_108 (by decide) rfl rfl ?_
            refine gj_iload C dX2_insert_110 rfl ?_
            refine gj_iload_n C dX2_insert_112 rfl ?_
            refine gj_icmp_ge (tgt := 121) C dX2_insert_113 (by decide) (fun c7 => ?_) (fun c7 => ?_)
            · refine gj_iload C dX2_insert_121 rfl ?_
              refine gj_iload C dX2_insert_123 rfl ?_
              refine gj_iadd C dX2_insert_125 ?_
              refine gj_iload C dX2_insert_126 rfl ?_
              refine gj_mmin C dX2_insert_128 w_208 w_209 w_9 w_210 (Nat.le_of_ble_eq_true rfl) (Nat.le_of_ble_eq_true rfl) ?_
              refine gj_istore (lw' := [some (.ref x), some (.int sh), some (.int (bI cs)), some (.int at0), some (.int num), some (.int (ll cs)), some (.int (nI (cbE (chI sh cs at0 num) en i))), some (.int (nI i)), some (.ref z), some (.int (rF cs e0.1)), some (.int (rL cs e0.1)), some (.int (rF cs e0.1)), some (.int (if (ll cs) < ((rL cs e0.1) + num) then (ll cs) else ((rL cs e0.1) + num)))]) C dX2_insert_131 (by decide) rfl rfl ?_
              refine gj_iload C dX2_insert_133 rfl ?_
              refine gj_aload_n C dX2_insert_135 rfl ?_
              refine gj_iload C dX2_insert_136 rfl ?_
              refine gj_iload_n C dX2_insert_138 rfl ?_
              refine gj_iload C dX2_insert_139 rfl ?_
              refine gj_iload C dX2_insert_141 rfl ?_
              refine gj_cV (As := [.int (nI i), .int (bI cs), .int (rF cs e0.1), .int (if (ll cs) < ((rL cs e0.1) + num) then (ll cs) else ((rL cs e0.1) + num))]) (rest := [.int (nI (cbE (chI sh cs at0 num) en i))]) (nc := 0) (ns := 0) C hV (k_putLines l D cI cN cZ cJ f x nx _ n ml i e0 cs (rF cs e0.1) (if (ll cs) < ((rL cs e0.1) + num) then (ll cs) else ((rL cs e0.1) + num)) hR hj (mapI_at.trans hei) (vr_le (hval i e0 hei) cs)) dX2_insert_143 rfl w_287 rfl w_284 w_1 w_286 ws_11 hd_X2_putLines rfl hW.1.1 rfl ⟨Nat.le_of_ble_eq_true rfl, Nat.le_of_ble_eq_true rfl⟩ (Nat.le_of_ble_eq_true rfl) (by decide) (by decide) (fun v u hp => ?_)
              obtain ⟨hv, hR2⟩ := hp
              refine gj_rt (f := u) (st' := [.int (bI (decide (¬ ((rF cs e0.1) = rF cs e0.1 ∧ (if (ll cs) < ((rL cs e0.1) + num) then (ll cs) else ((rL cs e0.1) + num)) = rL cs e0.1)))), .int (nI (cbE (chI sh cs at0 num) en i))]) hv rfl rfl ?_
              refine gj_iadd C dX2_insert_146 ?_
              refine gj_istore (lw' := [some (.ref x), some (.int sh), some (.int (bI cs)), some (.int at0), some (.int num), some (.int (ll cs)), some (.int ((nI (cbE (chI sh cs at0 num) en i)) + (bI (decide (¬ ((rF cs e0.1) = rF cs e0.1 ∧ (if (ll cs) < ((rL cs e0.1) + num) then (ll cs) else ((rL cs e0.1) + num)) = rL cs e0.1)))))), some (.int (nI i)), some (.ref z), some (.int (rF cs e0.1)), some (.int (rL cs e0.1)), some (.int (rF cs e0.1)), some (.int (if (ll cs) < ((rL cs e0.1) + num) then (ll cs) else ((rL cs e0.1) + num)))]) C dX2_insert_147 (by decide) rfl rfl ?_
              refine gj_iinc (v := (nI (i + 1))) (lw' := [some (.ref x), some (.int sh), some (.int (bI cs)), some (.int at0), some (.int num), some (.int (ll cs)), some (.int ((nI (cbE (chI sh cs at0 num) en i)) + (bI (decide (¬ ((rF cs e0.1) = rF cs e0.1 ∧ (if (ll cs) < ((rL cs e0.1) + num) then (ll cs) else ((rL cs e0.1) + num)) = rL cs e0.1)))))), some (.int (nI (i + 1))), some (.ref z), some (.int (rF cs e0.1)), some (.int (rL cs e0.1)), some (.int (rF cs e0.1)), some (.int (if (ll cs) < ((rL cs e0.1) + num) then (ll cs) else ((rL cs e0.1) + num)))]) C dX2_insert_149 rfl (nI_1 i) (by decide) rfl rfl ?_
              refine gj_goto (tgt := 33) C dX2_insert_152 (by decide) ?_
              refine gj_un 8 (lw' := [some (.ref x), some (.int sh), some (.int (bI cs)), some (.int at0), some (.int num), some (.int (ll cs)), some (.int ((nI (cbE (chI sh cs at0 num) en i)) + (bI (decide (¬ ((rF cs e0.1) = rF cs e0.1 ∧ (if (ll cs) < ((rL cs e0.1) + num) then (ll cs) else ((rL cs e0.1) + num)) = rL cs e0.1)))))), some (.int (nI (i + 1))), none, some (.int (rF cs e0.1)), some (.int (rL cs e0.1)), some (.int (rF cs e0.1)), some (.int (if (ll cs) < ((rL cs e0.1) + num) then (ll cs) else ((rL cs e0.1) + num)))]) rfl ?_
              refine gj_un 9 (lw' := [some (.ref x), some (.int sh), some (.int (bI cs)), some (.int at0), some (.int num), some (.int (ll cs)), some (.int ((nI (cbE (chI sh cs at0 num) en i)) + (bI (decide (¬ ((rF cs e0.1) = rF cs e0.1 ∧ (if (ll cs) < ((rL cs e0.1) + num) then (ll cs) else ((rL cs e0.1) + num)) = rL cs e0.1)))))), some (.int (nI (i + 1))), none, none, some (.int (rL cs e0.1)), some (.int (rF cs e0.1)), some (.int (if (ll cs) < ((rL cs e0.1) + num) then (ll cs) else ((rL cs e0.1) + num)))]) rfl ?_
              refine gj_un 10 (lw' := [some (.ref x), some (.int sh), some (.int (bI cs)), some (.int at0), some (.int num), some (.int (ll cs)), some (.int ((nI (cbE (chI sh cs at0 num) en i)) + (bI (decide (¬ ((rF cs e0.1) = rF cs e0.1 ∧ (if (ll cs) < ((rL cs e0.1) + num) then (ll cs) else ((rL cs e0.1) + num)) = rL cs e0.1)))))), some (.int (nI (i + 1))), none, none, none, some (.int (rF cs e0.1)), some (.int (if (ll cs) < ((rL cs e0.1) + num) then (ll cs) else ((rL cs e0.1) + num)))]) rfl ?_
              refine gj_un 11 (lw' := [some (.ref x), some (.int sh), some (.int (bI cs)), some (.int at0), some (.int num), some (.int (ll cs)), some (.int ((nI (cbE (chI sh cs at0 num) en i)) + (bI (decide (¬ ((rF cs e0.1) = rF cs e0.1 ∧ (if (ll cs) < ((rL cs e0.1) + num) then (ll cs) else ((rL cs e0.1) + num)) = rL cs e0.1)))))), some (.int (nI (i + 1))), none, none, none, none, some (.int (if (ll cs) < ((rL cs e0.1) + num) then (ll cs) else ((rL cs e0.1) + num)))]) rfl ?_
              refine gj_un 12 (lw' := [some (.ref x), some (.int sh), some (.int (bI cs)), some (.int at0), some (.int num), some (.int (ll cs)), some (.int ((nI (cbE (chI sh cs at0 num) en i)) + (bI (decide (¬ ((rF cs e0.1) = rF cs e0.1 ∧ (if (ll cs) < ((rL cs e0.1) + num) then (ll cs) else ((rL cs e0.1) + num)) = rL cs e0.1)))))), some (.int (nI (i + 1))), none, none, none, none, none]) rfl ?_
              have h9 := ih (i + 1) u (by omega) (by rw [mapI_s hei, phI_y (bI_p1 c2), insA_f c5, insB_t c7]; exact hR2)
              rw [cb_step hei, chI_y (bI_p1 c2), insA_f c5, insB_t c7] at h9
              exact h9
            · refine gj_iload C dX2_insert_116 rfl ?_
              refine gj_goto (tgt := 131) C dX2_insert_118 (by decide) ?_
              refine gj_istore (lw' := [some (.ref x), some (.int sh), some (.int (bI cs)), some (.int at0), some (.int num), some (.int (ll cs)), some (.int (nI (cbE (chI sh cs at0 num) en i))), some (.int (nI i)), some (.ref z), some (.int (rF cs e0.1)), some (.int (rL cs e0.1)), some (.int (rF cs e0.1)), some (.int (rL cs e0.1))]) C dX2_insert_131 (by decide) rfl rfl ?_
              refine gj_iload C dX2_insert_133 rfl ?_
              refine gj_aload_n C dX2_insert_135 rfl ?_
              refine gj_iload C dX2_insert_136 rfl ?_
              refine gj_iload_n C dX2_insert_138 rfl ?_
              refine gj_iload C dX2_insert_139 rfl ?_
              refine gj_iload C dX2_insert_141 rfl ?_
              refine gj_cV (As := [.int (nI i), .int (bI cs), .int (rF cs e0.1), .int (rL cs e0.1)]) (rest := [.int (nI (cbE (chI sh cs at0 num) en i))]) (nc := 0) (ns := 0) C hV (k_putLines l D cI cN cZ cJ f x nx _ n ml i e0 cs (rF cs e0.1) (rL cs e0.1) hR hj (mapI_at.trans hei) (vr_le (hval i e0 hei) cs)) dX2_insert_143 rfl w_287 rfl w_284 w_1 w_286 ws_11 hd_X2_putLines rfl hW.1.1 rfl ⟨Nat.le_of_ble_eq_true rfl, Nat.le_of_ble_eq_true rfl⟩ (Nat.le_of_ble_eq_true rfl) (by decide) (by decide) (fun v u hp => ?_)
              obtain ⟨hv, hR2⟩ := hp
              refine gj_rt (f := u) (st' := [.int (bI (decide (¬ ((rF cs e0.1) = rF cs e0.1 ∧ (rL cs e0.1) = rL cs e0.1)))), .int (nI (cbE (chI sh cs at0 num) en i))]) hv rfl rfl ?_
              refine gj_iadd C dX2_insert_146 ?_
              refine gj_istore (lw' := [some (.ref x), some (.int sh), some (.int (bI cs)), some (.int at0), some (.int num), some (.int (ll cs)), some (.int ((nI (cbE (chI sh cs at0 num) en i)) + (bI (decide (¬ ((rF cs e0.1) = rF cs e0.1 ∧ (rL cs e0.1) = rL cs e0.1)))))), some (.int (nI i)), some (.ref z), some (.int (rF cs e0.1)), some (.int (rL cs e0.1)), some (.int (rF cs e0.1)), some (.int (rL cs e0.1))]) C dX2_insert_147 (by decide) rfl rfl ?_
              refine gj_iinc (v := (nI (i + 1))) (lw' := [some (.ref x), some (.int sh), some (.int (bI cs)), some (.int at0), some (.int num), some (.int (ll cs)), some (.int ((nI (cbE (chI sh cs at0 num) en i)) + (bI (decide (¬ ((rF cs e0.1) = rF cs e0.1 ∧ (rL cs e0.1) = rL cs e0.1)))))), some (.int (nI (i + 1))), some (.ref z), some (.int (rF cs e0.1)), some (.int (rL cs e0.1)), some (.int (rF cs e0.1)), some (.int (rL cs e0.1))]) C dX2_insert_149 rfl (nI_1 i) (by decide) rfl rfl ?_
              refine gj_goto (tgt := 33) C dX2_insert_152 (by decide) ?_
              refine gj_un 8 (lw' := [some (.ref x), some (.int sh), some (.int (bI cs)), some (.int at0), some (.int num), some (.int (ll cs)), some (.int ((nI (cbE (chI sh cs at0 num) en i)) + (bI (decide (¬ ((rF cs e0.1) = rF cs e0.1 ∧ (rL cs e0.1) = rL cs e0.1)))))), some (.int (nI (i + 1))), none, some (.int (rF cs e0.1)), some (.int (rL cs e0.1)), some (.int (rF cs e0.1)), some (.int (rL cs e0.1))]) rfl ?_
              refine gj_un 9 (lw' := [some (.ref x), some (.int sh), some (.int (bI cs)), some (.int at0), some (.int num), some (.int (ll cs)), some (.int ((nI (cbE (chI sh cs at0 num) en i)) + (bI (decide (¬ ((rF cs e0.1) = rF cs e0.1 ∧ (rL cs e0.1) = rL cs e0.1)))))), some (.int (nI (i + 1))), none, none, some (.int (rL cs e0.1)), some (.int (rF cs e0.1)), some (.int (rL cs e0.1))]) rfl ?_
              refine gj_un 10 (lw' := [some (.ref x), some (.int sh), some (.int (bI cs)), some (.int at0), some (.int num), some (.int (ll cs)), some (.int ((nI (cbE (chI sh cs at0 num) en i)) + (bI (decide (¬ ((rF cs e0.1) = rF cs e0.1 ∧ (rL cs e0.1) = rL cs e0.1)))))), some (.int (nI (i + 1))), none, none, none, some (.int (rF cs e0.1)), some (.int (rL cs e0.1))]) rfl ?_
              refine gj_un 11 (lw' := [some (.ref x), some (.int sh), some (.int (bI cs)), some (.int at0), some (.int num), some (.int (ll cs)), some (.int ((nI (cbE (chI sh cs at0 num) en i)) + (bI (decide (¬ ((rF cs e0.1) = rF cs e0.1 ∧ (rL cs e0.1) = rL cs e0.1)))))), some (.int (nI (i + 1))), none, none, none, none, some (.int (rL cs e0.1))]) rfl ?_
              refine gj_un 12 (lw' := [some (.ref x), some (.int sh), some (.int (bI cs)), some (.int at0), some (.int num), some (.int (ll cs)), some (.int ((nI (cbE (chI sh cs at0 num) en i)) + (bI (decide (¬ ((rF cs e0.1) = rF cs e0.1 ∧ (rL cs e0.1) = rL cs e0.1)))))), some (.int (nI (i + 1))), none, none, none, none, none]) rfl ?_
              have h9 := ih (i + 1) u (by omega) (by rw [mapI_s hei, phI_y (bI_p1 c2), insA_f c5, insB_f c7]; exact hR2)
              rw [cb_step hei, chI_y (bI_p1 c2), insA_f c5, insB_f c7] at h9
              exact h9
  refine gj_iload_n C dX2_insert_0 rfl ?_
  refine gj_iload_n C dX2_insert_1 rfl ?_
  refine gj_iload_n C dX2_insert_2 rfl ?_
  refine gj_iload C dX2_insert_3 rfl ?_
  refine gj_cS (As := [.int sh, .int (bI cs), .int at0, .int num]) (rest := []) (nc := 1) (ns := 6) C hV (k_areLines l D (tyl cI cN cZ cJ) f sh cs at0 num) dX2_insert_5 rfl w_267 rfl w_265 w_1 w_266 hd_X2_areLines rfl ⟨Nat.le_of_ble_eq_true rfl, Nat.le_of_ble_eq_true rfl⟩ (Nat.le_of_ble_eq_true rfl) (by decide) (by decide) (fun v u hp8 => ?_)
  refine gj_rt (st' := [.int (bI (decide (vn sh cs at0 num)))]) hp8.1 hp8.2 rfl ?_
  refine gj_if_ne (tgt := 21) C dX2_insert_8 (by decide) (fun c9 => ?_) (fun c9 => ?_)
  · refine gj_iload_n C dX2_insert_21 rfl ?_
    refine gj_cS (As := [.int (bI cs)]) (rest := []) (nc := 1) (ns := 6) C hV (k_lastLine l D (tyl cI cN cZ cJ) f cs) dX2_insert_22 rfl w_53 rfl w_51 w_1 w_52 hd_X2_lastLine rfl ⟨Nat.le_of_ble_eq_true rfl, Nat.le_of_ble_eq_true rfl⟩ (Nat.le_of_ble_eq_true rfl) (by decide) (by decide) (fun v u hp10 => ?_)
    refine gj_rt (st' := [.int (ll cs)]) hp10.1 hp10.2 rfl ?_
    refine gj_istore (lw' := [some (.ref x), some (.int sh), some (.int (bI cs)), some (.int at0), some (.int num), some (.int (ll cs)), none, none, none, none, none, none, none]) C dX2_insert_25 (by decide) rfl rfl ?_
    refine gj_iconst (v := 0) C dX2_insert_27 (by decide) ?_
    refine gj_istore (lw' := [some (.ref x), some (.int sh), some (.int (bI cs)), some (.int at0), some (.int num), some (.int (ll cs)), some (.int 0), none, none, none, none, none, none]) C dX2_insert_28 (by decide) rfl rfl ?_
    refine gj_iconst (v := 0) C dX2_insert_30 (by decide) ?_
    refine gj_istore (lw' := [some (.ref x), some (.int sh), some (.int (bI cs)), some (.int at0), some (.int num), some (.int (ll cs)), some (.int 0), some (.int 0), none, none, none, none, none]) C dX2_insert_31 (by decide) rfl rfl ?_
    refine gj_nc (Nat.zero_le _) (Nat.zero_le _) ?_
    exact loop (bI_p1 c9) n 0 f (by omega) (by rw [mapI_0]; exact hR)
  · exact gj_throwS C hV hV2 hZ hl hT hlk dX2_insert_11 dX2_insert_14 dX2_insert_15 dX2_insert_17 dX2_insert_20 xfit_IA w_119 w_7 (List.mem_of_getElem? (i := 4) rfl) xat1_IA xat2_IA xgd_IA (Nat.le_of_ble_eq_true rfl) (Nat.le_of_ble_eq_true rfl) (Nat.le_of_ble_eq_true rfl) (Nat.le_of_ble_eq_true rfl) (⟨bI_p0 c9, rfl, hR⟩)
set_option maxRecDepth 100000 in
set_option maxHeartbeats 4000000 in
theorem k_delete (l : Launch) (hl : l.stackTraces = false) (D : va_G) (cI cN cZ cJ : ClassId) (f : gm) (x : Nat) (nx : Option Rc) (en : Nat → Option En) (n : Nat) (ml : List Nat) (sh : Int32) (cs : Bool) (at0 num : Int32) (hR : Rp cI cN f x nx en n ml) (hval : ∀ j e, en j = some e → vr e.1) : gkx l yX2_delete (.code yX2_delete cX2_delete 12 (Option.some Jvm.ClassFile.FieldType.int)) (rmk 5 1 6) D (tyl cI cN cZ cJ) [.ref x, .int sh, .int (bI cs), .int at0, .int num] f (fun v u => vn sh cs at0 num ∧ v = some (.int (nI (cbE (chX sh cs at0 num) en 4096))) ∧ Rp cI cN u x nx (mapE (phX sh cs at0 num) en) n ml) (fun E u => ¬ vn sh cs at0 num ∧ E = xIA ∧ Rp cI cN u x nx en n ml) := by
  refine gkx_of [some (.ref x), some (.int sh), some (.int (bI cs)), some (.int at0), some (.int num), none, none, none, none, none, none, none] (by decide) rfl (Nat.le_of_ble_eq_true rfl) rfl ?_
  intro p e s m args below meth c A C hV hr hlk hnm hV2 hZ hT
  have hd : ∀ j, n ≤ j → en j = none := hR.bd.1
  have hn : n ≤ 1024 := hR.bd.2.1
  have loop : vn sh cs at0 num → ∀ (d i : Nat) (f : gm), i + d = n → Rp cI cN f x nx (mapI (phX sh cs at0 num) en i) n ml → gj p l e (rmk 5 1 6) s m args below meth c D vwCl A 12 (vx_MQ below (gk_Q (fun v u => vn sh cs at0 num ∧ v = some (.int (nI (cbE (chX sh cs at0 num) en 4096))) ∧ Rp cI cN u x nx (mapE (phX sh cs at0 num) en) n ml) D A) (gkx_X (fun E u => ¬ vn sh cs at0 num ∧ E = xIA ∧ Rp cI cN u x nx en n ml) D A) args s (rmk 5 1 6).cells (rmk 5 1 6).slots A) f 0 0 27 [some (.ref x), some (.int sh), some (.int (bI cs)), some (.int at0), some (.int num), some (.int (nI (cbE (chX sh cs at0 num) en i))), some (.int (nI i)), none, none, none, none, none] [] := by
    intro hok d
    induction d with
    | zero =>
      intro i f hid hR
      rw [show mapI (phX sh cs at0 num) en i = mapI (phX sh cs at0 num) en n by rw [show i = n by omega]] at hR
      obtain ⟨q, hE, hM, k, g, mf, ar, hW⟩ := id hR
      refine gj_iload C dX2_delete_27 rfl ?_
      refine gj_aload_n C dX2_delete_29 rfl ?_
      refine gj_get C dX2_delete_30 hW.1.1 rfl inX2 1 (by decide) w_22 rfl ?_
      refine gj_alen C 1 dX2_delete_33 hW.1.2.1 rfl ?_
      refine gj_icmp_geT (tgt := 154) C dX2_delete_34 (by decide) (by rw [show i = n by omega]; exact Int32.le_refl _) ?_
      refine gj_iload C dX2_delete_154 rfl ?_
      exact gj_vx (gj_iret C hr hlk dX2_delete_156 (⟨hok, by rw [cbE_none hd 4096 (by omega), show i = n by omega], by rw [← mapI_end (φ := (phX sh cs at0 num)) hd]; exact hR⟩))
    | succ d ih =>
      intro i f hid hR
      have hj : i < n := by omega
      obtain ⟨q, hE, hM, k, g, mf, ar, hW⟩ := id hR
      cases hei : en i with
      | none =>
        refine gj_iload C dX2_delete_27 rfl ?_
        refine gj_aload_n C dX2_delete_29 rfl ?_
        refine gj_get C dX2_delete_30 hW.1.1 rfl inX2 1 (by decide) w_22 rfl ?_
        refine gj_alen C 1 dX2_delete_33 hW.1.2.1 rfl ?_
        refine gj_icmp_geF (tgt := 154) C dX2_delete_34 (by decide) (nI_ge hj (by omega)) ?_
        refine gj_aload_n C dX2_delete_37 rfl ?_
        refine gj_get C dX2_delete_38 hW.1.1 rfl inX2 1 (by decide) w_22 rfl ?_
        refine gj_iload C dX2_delete_41 rfl ?_
        refine gj_aaldN C 1 dX2_delete_43 hW.1.2.1 rfl hj (by omega) ?_
        refine gj_st (st' := [.null]) (by rw [rpw_no hW hj (mapI_at.trans hei)]; rfl) ?_
        refine gj_astoreN (lw' := [some (.ref x), some (.int sh), some (.int (bI cs)), some (.int at0), some (.int num), some (.int (nI (cbE (chX sh cs at0 num) en i))), some (.int (nI i)), some (.null), none, none, none, none]) C dX2_delete_44 (by decide) rfl rfl ?_
        refine gj_aloadN C dX2_delete_46 rfl ?_
        refine gj_ifnullN (tgt := 148) C dX2_delete_48 (by decide) ?_
        refine gj_iinc (v := (nI (i + 1))) (lw' := [some (.ref x), some (.int sh), some (.int (bI cs)), some (.int at0), some (.int num), some (.int (nI (cbE (chX sh cs at0 num) en i))), some (.int (nI (i + 1))), some (.null), none, none, none, none]) C dX2_delete_148 rfl (nI_1 i) (by decide) rfl rfl ?_
        refine gj_goto (tgt := 27) C dX2_delete_151 (by decide) ?_
        refine gj_un 7 (lw' := [some (.ref x), some (.int sh), some (.int (bI cs)), some (.int at0), some (.int num), some (.int (nI (cbE (chX sh cs at0 num) en i))), some (.int (nI (i + 1))), none, none, none, none, none]) rfl ?_
        have h9 := ih (i + 1) f (by omega) (by rw [mapI_n hei]; exact hR)
        rw [cb_n hei] at h9
        exact h9
      | some e0 =>
        obtain ⟨z, z1, z2, z3⟩ := rpw_at hW hj (mapI_at.trans hei)
        refine gj_iload C dX2_delete_27 rfl ?_
        refine gj_aload_n C dX2_delete_29 rfl ?_
        refine gj_get C dX2_delete_30 hW.1.1 rfl inX2 1 (by decide) w_22 rfl ?_
        refine gj_alen C 1 dX2_delete_33 hW.1.2.1 rfl ?_
        refine gj_icmp_geF (tgt := 154) C dX2_delete_34 (by decide) (nI_ge hj (by omega)) ?_
        refine gj_aload_n C dX2_delete_37 rfl ?_
        refine gj_get C dX2_delete_38 hW.1.1 rfl inX2 1 (by decide) w_22 rfl ?_
        refine gj_iload C dX2_delete_41 rfl ?_
        refine gj_aaldN C 1 dX2_delete_43 hW.1.2.1 rfl hj (by omega) ?_
        refine gj_st (st' := [.ref z]) (by rw [z1]; rfl) ?_
        refine gj_astore (lw' := [some (.ref x), some (.int sh), some (.int (bI cs)), some (.int at0), some (.int num), some (.int (nI (cbE (chX sh cs at0 num) en i))), some (.int (nI i)), some (.ref z), none, none, none, none]) C dX2_delete_44 (by decide) rfl rfl ?_
        refine gj_aload C dX2_delete_46 rfl ?_
        refine gj_ifnull C dX2_delete_48 ?_
        refine gj_aload C dX2_delete_51 rfl ?_
        refine gj_getN C dX2_delete_53 z2 rfl inX1 0 (by decide) (hV.2.1 _ nw_8) rfl ?_
        refine gj_iload_n C dX2_delete_56 rfl ?_
        refine gj_iload_n C dX2_delete_57 rfl ?_
        refine gj_cVN (As := [.int sh, .int (bI cs)]) (rest := []) (nc := 0) (ns := 0) C hV (k_Area_yieldsTo l D (tyl cI cN cZ cJ) f (ar i) e0.1 sh cs z3) dX2_delete_58 rfl w_272 rfl nw_11 w_3 w_271 ws_8 hd_X0_yieldsTo rfl z3 rfl ⟨Nat.le_of_ble_eq_true rfl, Nat.le_of_ble_eq_true rfl⟩ (Nat.le_of_ble_eq_true rfl) (by decide) (by decide) (fun v u hp1 => ?_)
        refine gj_rt (st' := [.int (bI (decide (rY sh cs e0.1)))]) hp1.1 hp1.2 rfl ?_
        refine gj_if_eq (tgt := 148) C dX2_delete_61 (by decide) (fun c2 => ?_) (fun c2 => ?_)
        · refine gj_iinc (v := (nI (i + 1))) (lw' := [some (.ref x), some (.int sh), some (.int (bI cs)), some (.int at0), some (.int num), some (.int (nI (cbE (chX sh cs at0 num) en i))), some (.int (nI (i + 1))), some (.ref z), none, none, none, none]) C dX2_delete_148 rfl (nI_1 i) (by decide) rfl rfl ?_
          refine gj_goto (tgt := 27) C dX2_delete_151 (by decide) ?_
          refine gj_un 7 (lw' := [some (.ref x), some (.int sh), some (.int (bI cs)), some (.int at0), some (.int num), some (.int (nI (cbE (chX sh cs at0 num) en i))), some (.int (nI (i + 1))), none, none, none, none, none]) rfl ?_
          have h9 := ih (i + 1) f (by omega) (by rw [mapI_k hei (phX_n (bI_p0 c2))]; exact hR)
          rw [cb_f hei (chX_n (bI_p0 c2))] at h9
          exact h9
        · refine gj_aload C dX2_delete_64 rfl ?_
          refine gj_getN C dX2_delete_66 z2 rfl inX1 0 (by decide) (hV.2.1 _ nw_8) rfl ?_
          refine gj_iload_n C dX2_delete_69 rfl ?_
          refine gj_cVN (As := [.int (bI cs)]) (rest := []) (nc := 0) (ns := 0) C hV (k_Area_first l D (tyl cI cN cZ cJ) f (ar i) e0.1 cs z3) dX2_delete_70 rfl w_276 rfl nw_13 w_3 w_275 ws_9 hd_X0_first rfl z3 rfl ⟨Nat.le_of_ble_eq_true rfl, Nat.le_of_ble_eq_true rfl⟩ (Nat.le_of_ble_eq_true rfl) (by decide) (by decide) (fun v u hp3 => ?_)
          refine gj_rt (st' := [.int (rF cs e0.1)]) hp3.1 hp3.2 rfl ?_
          refine gj_istore (lw' := [some (.ref x), some (.int sh), some (.int (bI cs)), some (.int at0), some (.int num), some (.int (nI (cbE (chX sh cs at0 num) en i))), some (.int (nI i)), some (.ref z), some (.int (rF cs e0.1)), none, none, none]) C dX2_delete_73 (by decide) rfl rfl ?_
          refine gj_aload C dX2_delete_75 rfl ?_
          refine gj_getN C dX2_delete_77 z2 rfl inX1 0 (by decide) (hV.2.1 _ nw_8) rfl ?_
          refine gj_iload_n C dX2_delete_80 rfl ?_
          refine gj_cVN (As := [.int (bI cs)]) (rest := []) (nc := 0) (ns := 0) C hV (k_Area_last l D (tyl cI cN cZ cJ) f (ar i) e0.1 cs z3) dX2_delete_81 rfl w_280 rfl nw_14 w_3 w_279 ws_10 hd_X0_last rfl z3 rfl ⟨Nat.le_of_ble_eq_true rfl, Nat.le_of_ble_eq_true rfl⟩ (Nat.le_of_ble_eq_true rfl) (by decide) (by decide) (fun v u hp4 => ?_)
          refine gj_rt (st' := [.int (rL cs e0.1)]) hp4.1 hp4.2 rfl ?_
          refine gj_istore (lw' := [some (.ref x), some (.int sh), some (.int (bI cs)), some (.int at0), some (.int num), some (.int (nI (cbE (chX sh cs at0 num) en i))), some (.int (nI i)), some (.ref z), some (.int (rF cs e0.1)), some (.int (rL cs e0.1)), none, none]) C dX2_delete_84 (by decide) rfl rfl ?_
          refine gj_iload C dX2_delete_86 rfl ?_
          refine gj_iload_n C dX2_delete_88 rfl ?_
          refine gj_icmp_ge (tgt := 97) C dX2_delete_89 (by decide) (fun c5 => ?_) (fun c5 => ?_)
          · refine gj_iload C dX2_delete_97 rfl ?_
            refine gj_iload C dX2_delete_99 rfl ?_
            refine gj_isub C dX2_delete_101 ?_
            refine gj_iload_n C dX2_delete_102 rfl ?_
            refine gj_mmax C dX2_delete_103 w_299 w_300 w_9 w_301 (Nat.le_of_ble_eq_true rfl) (Nat.le_of_ble_eq_true rfl) ?_
            refine gj_istore (lw' := [some (.ref x), some (.int sh), some (.int (bI cs)), some (.int at0), some (.int num), some (.int (nI (cbE (chX sh cs at0 num) en i))), some (.int (nI i)), some (.ref z), some (.int (rF cs e0.1)), some (.int (rL cs e0.1)), some (.int (if ((rF cs e0.1) - num) < at0 then at0 else ((rF cs e0.1) - num))), none]) C dX2_delete_106 (by decide) rfl rfl ?_
            refine gj_iload C dX2_delete_108 rfl ?_
            refine gj_iload_n C dX2_delete_110 rfl ?_
            refine gj_icmp_ge (tgt := 119) C dX2_delete_111 (by decide) (fun c6 => ?_) (fun c6 => ?_)
            · refine gj_iload C dX2_delete_119 rfl ?_
              refine gj_iload C dX2_delete_121 rfl ?_
              refine gj_isub C dX2_delete_123 ?_
              refine gj_iload_n C dX2_delete_124 rfl ?_
              refine gj_iconst (v := 1) C dX2_delete_125 (by decide) ?_
              refine gj_isub C dX2_delete_126 ?_
              refine gj_mmax C dX2_delete_127 w_299 w_300 w_9 w_301 (Nat.le_of_ble_eq_true rfl) (Nat.le_of_ble_eq_true rfl) ?_
              refine gj_istore (lw' := [some (.ref x), some (.int sh), some (.int (bI cs)), some (.int at0), some (.int num), some (.int (nI (cbE (chX sh cs at0 num) en i))), some (.int (nI i)), some (.ref z), some (.int (rF cs e0.1)), some (.int (rL cs e0.1)), some (.int (if ((rF cs e0.1) - num) < at0 then at0 else ((rF cs e0.1) - num))), some (.int (if ((rL cs e0.1) - num) < (at0 - 1) then (at0 - 1) else ((rL cs e0.1) - num)))]) C dX2_delete_130 (by decide) rfl rfl ?_
              refine gj_iload C dX2_delete_132 rfl ?_
              refine gj_aload_n C dX2_delete_134 rfl ?_
              refine gj_iload C dX2_delete_135 rfl ?_
              refine gj_iload_n C dX2_delete_137 rfl ?_
              refine gj_iload C dX2_delete_138 rfl ?_
              refine gj_iload C dX2_delete_140 rfl ?_
              refine gj_cV (As := [.int (nI i), .int (bI cs), .int (if ((rF cs e0.1) - num) < at0 then at0 else ((rF cs e0.1) - num)), .int (if ((rL cs e0.1) - num) < (at0 - 1) then (at0 - 1) else ((rL cs e0.1) - num))]) (rest := [.int (nI (cbE (chX sh cs at0 num) en i))]) (nc := 0) (ns := 0) C hV (k_putLines l D cI cN cZ cJ f x nx _ n ml i e0 cs (if ((rF cs e0.1) - num) < at0 then at0 else ((rF cs e0.1) - num)) (if ((rL cs e0.1) - num) < (at0 - 1) then (at0 - 1) else ((rL cs e0.1) - num)) hR hj (mapI_at.trans hei) (vr_le (hval i e0 hei) cs)) dX2_delete_142 rfl w_287 rfl w_284 w_1 w_286 ws_11 hd_X2_putLines rfl hW.1.1 rfl ⟨Nat.le_of_ble_eq_true rfl, Nat.le_of_ble_eq_true rfl⟩ (Nat.le_of_ble_eq_true rfl) (by decide) (by decide) (fun v u hp => ?_)
              obtain ⟨hv, hR2⟩ := hp
              refine gj_rt (f := u) (st' := [.int (bI (decide (¬ ((if ((rF cs e0.1) - num) < at0 then at0 else ((rF cs e0.1) - num)) = rF cs e0.1 ∧ (if ((rL cs e0.1) - num) < (at0 - 1) then (at0 - 1) else ((rL cs e0.1) - num)) = rL cs e0.1)))), .int (nI (cbE (chX sh cs at0 num) en i))]) hv rfl rfl ?_
              refine gj_iadd C dX2_delete_145 ?_
              refine gj_istore (lw' := [some (.ref x), some (.int sh), some (.int (bI cs)), some (.int at0), some (.int num), some (.int ((nI (cbE (chX sh cs at0 num) en i)) + (bI (decide (¬ ((if ((rF cs e0.1) - num) < at0 then at0 else ((rF cs e0.1) - num)) = rF cs e0.1 ∧ (if ((rL cs e0.1) - num) < (at0 - 1) then (at0 - 1) else ((rL cs e0.1) - num)) = rL cs e0.1)))))), some (.int (nI i)), some (.ref z), some (.int (rF cs e0.1)), some (.int (rL cs e0.1)), some (.int (if ((rF cs e0.1) - num) < at0 then at0 else ((rF cs e0.1) - num))), some (.int (if ((rL cs e0.1) - num) < (at0 - 1) then (at0 - 1) else ((rL cs e0.1) - num)))]) C dX2_delete_146 (by decide) rfl rfl ?_
              refine gj_iinc (v := (nI (i + 1))) (lw' := [some (.ref x), some (.int sh), some (.int (bI cs)), some (.int at0), some (.int num), some (.int ((nI (cbE (chX sh cs at0 num) en i)) + (bI (decide (¬ ((if ((rF cs e0.1) - num) < at0 then at0 else ((rF cs e0.1) - num)) = rF cs e0.1 ∧ (if ((rL cs e0.1) - num) < (at0 - 1) then (at0 - 1) else ((rL cs e0.1) - num)) = rL cs e0.1)))))), some (.int (nI (i + 1))), some (.ref z), some (.int (rF cs e0.1)), some (.int (rL cs e0.1)), some (.int (if ((rF cs e0.1) - num) < at0 then at0 else ((rF cs e0.1) - num))), some (.int (if ((rL cs e0.1) - num) < (at0 - 1) then (at0 - 1) else ((rL cs e0.1) - num)))]) C dX2_delete_148 rfl (nI_1 i) (by decide) rfl rfl ?_
              refine gj_goto (tgt := 27) C dX2_delete_151 (by decide) ?_
              refine gj_un 7 (lw' := [some (.ref x), some (.int sh), some (.int (bI cs)), some (.int at0), some (.int num), some (.int ((nI (cbE (chX sh cs at0 num) en i)) + (bI (decide (¬ ((if ((rF cs e0.1) - num) < at0 then at0 else ((rF cs e0.1) - num)) = rF cs e0.1 ∧ (if ((rL cs e0.1) - num) < (at0 - 1) then (at0 - 1) else ((rL cs e0.1) - num)) = rL cs e0.1)))))), some (.int (nI (i + 1))), none, some (.int (rF cs e0.1)), some (.int (rL cs e0.1)), some (.int (if ((rF cs e0.1) - num) < at0 then at0 else ((rF cs e0.1) - num))), some (.int (if ((rL cs e0.1) - num) < (at0 - 1) then (at0 - 1) else ((rL cs e0.1) - num)))]) rfl ?_
              refine gj_un 8 (lw' := [some (.ref x), some (.int sh), some (.int (bI cs)), some (.int at0), some (.int num), some (.int ((nI (cbE (chX sh cs at0 num) en i)) + (bI (decide (¬ ((if ((rF cs e0.1) - num) < at0 then at0 else ((rF cs e0.1) - num)) = rF cs e0.1 ∧ (if ((rL cs e0.1) - num) < (at0 - 1) then (at0 - 1) else ((rL cs e0.1) - num)) = rL cs e0.1)))))), some (.int (nI (i + 1))), none, none, some (.int (rL cs e0.1)), some (.int (if ((rF cs e0.1) - num) < at0 then at0 else ((rF cs e0.1) - num))), some (.int (if ((rL cs e0.1) - num) < (at0 - 1) then (at0 - 1) else ((rL cs e0.1) - num)))]) rfl ?_
              refine gj_un 9 (lw' := [some (.ref x), some (.int sh), some (.int (bI cs)), some (.int at0), some (.int num), some (.int ((nI (cbE (chX sh cs at0 num) en i)) + (bI (decide (¬ ((if ((rF cs e0.1) - num) < at0 then at0 else ((rF cs e0.1) - num)) = rF cs e0.1 ∧ (if ((rL cs e0.1) - num) < (at0 - 1) then (at0 - 1) else ((rL cs e0.1) - num)) = rL cs e0.1)))))), some (.int (nI (i + 1))), none, none, none, some (.int (if ((rF cs e0.1) - num) < at0 then at0 else ((rF cs e0.1) - num))), some (.int (if ((rL cs e0.1) - num) < (at0 - 1) then (at0 - 1) else ((rL cs e0.1) - num)))]) rfl ?_
              refine gj_un 10 (lw' := [some (.ref x), some (.int sh), some (.int (bI cs)), some (.int at0), some (.int num), some (.int ((nI (cbE (chX sh cs at0 num) en i)) + (bI (decide (¬ ((if ((rF cs e0.1) - num) < at0 then at0 else ((rF cs e0.1) - num)) = rF cs e0.1 ∧ (if ((rL cs e0.1) - num) < (at0 - 1) then (at0 - 1) else ((rL cs e0.1) - num)) = rL cs e0.1)))))), some (.int (nI (i + 1))), none, none, none, none, some (.int (if ((rL cs e0.1) - num) < (at0 - 1) then (at0 - 1) else ((rL cs e0.1) - num)))]) rfl ?_
              refine gj_un 11 (lw' := [some (.ref x), some (.int sh), some (.int (bI cs)), some (.int at0), some (.int num), some (.int ((nI (cbE (chX sh cs at0 num) en i)) + (bI (decide (¬ ((if ((rF cs e0.1) - num) < at0 then at0 else ((rF cs e0.1) - num)) = rF cs e0.1 ∧ (if ((rL cs e0.1) - num) < (at0 - 1) then (at0 - 1) else ((rL cs e0.1) - num)) = rL cs e0.1)))))), some (.int (nI (i + 1))), none, none, none, none, none]) rfl ?_
              have h9 := ih (i + 1) u (by omega) (by rw [mapI_s hei, phX_y (bI_p1 c2), delA_t c5, delB_t c6]; exact hR2)
              rw [cb_step hei, chX_y (bI_p1 c2), delA_t c5, delB_t c6] at h9
              exact h9
            · refine gj_iload C dX2_delete_114 rfl ?_
              refine gj_goto (tgt := 130) C dX2_delete_116 (by decide) ?_
              refine gj_istore (lw' := [some (.ref x), some (.int sh), some (.int (bI cs)), some (.int at0), some (.int num), some (.int (nI (cbE (chX sh cs at0 num) en i))), some (.int (nI i)), some (.ref z), some (.int (rF cs e0.1)), some (.int (rL cs e0.1)), some (.int (if ((rF cs e0.1) - num) < at0 then at0 else ((rF cs e0.1) - num))), some (.int (rL cs e0.1))]) C dX2_delete_130 (by decide) rfl rfl ?_
              refine gj_iload C dX2_delete_132 rfl ?_
              refine gj_aload_n C dX2_delete_134 rfl ?_
              refine gj_iload C dX2_delete_135 rfl ?_
              refine gj_iload_n C dX2_delete_137 rfl ?_
              refine gj_iload C dX2_delete_138 rfl ?_
              refine gj_iload C dX2_delete_140 rfl ?_
              refine gj_cV (As := [.int (nI i), .int (bI cs), .int (if ((rF cs e0.1) - num) < at0 then at0 else ((rF cs e0.1) - num)), .int (rL cs e0.1)]) (rest := [.int (nI (cbE (chX sh cs at0 num) en i))]) (nc := 0) (ns := 0) C hV (k_putLines l D cI cN cZ cJ f x nx _ n ml i e0 cs (if ((rF cs e0.1) - num) < at0 then at0 else ((rF cs e0.1) - num)) (rL cs e0.1) hR hj (mapI_at.trans hei) (vr_le (hval i e0 hei) cs)) dX2_delete_142 rfl w_287 rfl w_284 w_1 w_286 ws_11 hd_X2_putLines rfl hW.1.1 rfl ⟨Nat.le_of_ble_eq_true rfl, Nat.le_of_ble_eq_true rfl⟩ (Nat.le_of_ble_eq_true rfl) (by decide) (by decide) (fun v u hp => ?_)
              obtain ⟨hv, hR2⟩ := hp
              refine gj_rt (f := u) (st' := [.int (bI (decide (¬ ((if ((rF cs e0.1) - num) < at0 then at0 else ((rF cs e0.1) - num)) = rF cs e0.1 ∧ (rL cs e0.1) = rL cs e0.1)))), .int (nI (cbE (chX sh cs at0 num) en i))]) hv rfl rfl ?_
              refine gj_iadd C dX2_delete_145 ?_
              refine gj_istore (lw' := [some (.ref x), some (.int sh), some (.int (bI cs)), some (.int at0), some (.int num), some (.int ((nI (cbE (chX sh cs at0 num) en i)) + (bI (decide (¬ ((if ((rF cs e0.1) - num) < at0 then at0 else ((rF cs e0.1) - num)) = rF cs e0.1 ∧ (rL cs e0.1) = rL cs e0.1)))))), some (.int (nI i)), some (.ref z), some (.int (rF cs e0.1)), some (.int (rL cs e0.1)), some (.int (if ((rF cs e0.1) - num) < at0 then at0 else ((rF cs e0.1) - num))), some (.int (rL cs e0.1))]) C dX2_delete_146 (by decide) rfl rfl ?_
              refine gj_iinc (v := (nI (i + 1))) (lw' := [some (.ref x), some (.int sh), some (.int (bI cs)), some (.int at0), some (.int num), some (.int ((nI (cbE (chX sh cs at0 num) en i)) + (bI (decide (¬ ((if ((rF cs e0.1) - num) < at0 then at0 else ((rF cs e0.1) - num)) = rF cs e0.1 ∧ (rL cs e0.1) = rL cs e0.1)))))), some (.int (nI (i + 1))), some (.ref z), some (.int (rF cs e0.1)), some (.int (rL cs e0.1)), some (.int (if ((rF cs e0.1) - num) < at0 then at0 else ((rF cs e0.1) - num))), some (.int (rL cs e0.1))]) C dX2_delete_148 rfl (nI_1 i) (by decide) rfl rfl ?_
              refine gj_goto (tgt := 27) C dX2_delete_151 (by decide) ?_
              refine gj_un 7 (lw' := [some (.ref x), some (.int sh), some (.int (bI cs)), some (.int at0), some (.int num), some (.int ((nI (cbE (chX sh cs at0 num) en i)) + (bI (decide (¬ ((if ((rF cs e0.1) - num) < at0 then at0 else ((rF cs e0.1) - num)) = rF cs e0.1 ∧ (rL cs e0.1) = rL cs e0.1)))))), some (.int (nI (i + 1))), none, some (.int (rF cs e0.1)), some (.int (rL cs e0.1)), some (.int (if ((rF cs e0.1) - num) < at0 then at0 else ((rF cs e0.1) - num))), some (.int (rL cs e0.1))]) rfl ?_
              refine gj_un 8 (lw' := [some (.ref x), some (.int sh), some (.int (bI cs)), some (.int at0), some (.int num), some (.int ((nI (cbE (chX sh cs at0 num) en i)) + (bI (decide (¬ ((if ((rF cs e0.1) - num) < at0 then at0 else ((rF cs e0.1) - num)) = rF cs e0.1 ∧ (rL cs e0.1) = rL cs e0.1)))))), some (.int (nI (i + 1))), none, none, some (.int (rL cs e0.1)), some (.int (if ((rF cs e0.1) - num) < at0 then at0 else ((rF cs e0.1) - num))), some (.int (rL cs e0.1))]) rfl ?_
              refine gj_un 9 (lw' := [some (.ref x), some (.int sh), some (.int (bI cs)), some (.int at0), some (.int num), some (.int ((nI (cbE (chX sh cs at0 num) en i)) + (bI (decide (¬ ((if ((rF cs e0.1) - num) < at0 then at0 else ((rF cs e0.1) - num)) = rF cs e0.1 ∧ (rL cs e0.1) = rL cs e0.1)))))), some (.int (nI (i + 1))), none, none, none, some (.int (if ((rF cs e0.1) - num) < at0 then at0 else ((rF cs e0.1) - num))), some (.int (rL cs e0.1))]) rfl ?_
              refine gj_un 10 (lw' := [some (.ref x), some (.int sh), some (.int (bI cs)), some (.int at0), some (.int num), some (.int ((nI (cbE (chX sh cs at0 num) en i)) + (bI (decide (¬ ((if ((rF cs e0.1) - num) < at0 then at0 else ((rF cs e0.1) - num)) = rF cs e0.1 ∧ (rL cs e0.1) = rL cs e0.1)))))), some (.int (nI (i + 1))), none, none, none, none, some (.int (rL cs e0.1))]) rfl ?_
              refine gj_un 11 (lw' := [some (.ref x), some (.int sh), some (.int (bI cs)), some (.int at0), some (.int num), some (.int ((nI (cbE (chX sh cs at0 num) en i)) + (bI (decide (¬ ((if ((rF cs e0.1) - num) < at0 then at0 else ((rF cs e0.1) - num)) = rF cs e0.1 ∧ (rL cs e0.1) = rL cs e0.1)))))), some (.int (nI (i + 1))), none, none, none, none, none]) rfl ?_
              have h9 := ih (i + 1) u (by omega) (by rw [mapI_s hei, phX_y (bI_p1 c2), delA_t c5, delB_f c6]; exact hR2)
              rw [cb_step hei, chX_y (bI_p1 c2), delA_t c5, delB_f c6] at h9
              exact h9
          · refine gj_iload C dX2_delete_92 rfl ?_
            refine gj_goto (tgt := 106) C dX2_delete_94 (by decide) ?_
            refine gj_istore (lw' := [some (.ref x), some (.int sh), some (.int (bI cs)), some (.int at0), some (.int num), some (.int (nI (cbE (chX sh cs at0 num) en i))), some (.int (nI i)), some (.ref z), some (.int (rF cs e0.1)), some (.int (rL cs e0.1)), some (.int (rF cs e0.1)), none]) C dX2_delete_106 (by decide) rfl rfl ?_
            refine gj_iload C dX2_delete_108 rfl ?_
            refine gj_iload_n C dX2_delete_110 rfl ?_
            refine gj_icmp_ge (tgt := 119) C dX2_delete_111 (by decide) (fun c7 => ?_) (fun c7 => ?_)
            · refine gj_iload C dX2_delete_119 rfl ?_
              refine gj_iload C dX2_delete_121 rfl ?_
              refine gj_isub C dX2_delete_123 ?_
              refine gj_iload_n C dX2_delete_124 rfl ?_
              refine gj_iconst (v := 1) C dX2_delete_125 (by decide) ?_
              refine gj_isub C dX2_delete_126 ?_
              refine gj_mmax C dX2_delete_127 w_299 w_300 w_9 w_301 (Nat.le_of_ble_eq_true rfl) (Nat.le_of_ble_eq_true rfl) ?_
              refine gj_istore (lw' := [some (.ref x), some (.int sh), some (.int (bI cs)), some (.int at0), some (.int num), some (.int (nI (cbE (chX sh cs at0 num) en i))), some (.int (nI i)), some (.ref z), some (.int (rF cs e0.1)), some (.int (rL cs e0.1)), some (.int (rF cs e0.1)), some (.int (if ((rL cs e0.1) - num) < (at0 - 1) then (at0 - 1) else ((rL cs e0.1) - num)))]) C dX2_delete_130 (by decide) rfl rfl ?_
              refine gj_iload C dX2_delete_132 rfl ?_
              refine gj_aload_n C dX2_delete_134 rfl ?_
              refine gj_iload C dX2_delete_135 rfl ?_
              refine gj_iload_n C dX2_delete_137 rfl ?_
              refine gj_iload C dX2_delete_138 rfl ?_
              refine gj_iload C dX2_delete_140 rfl ?_
              refine gj_cV (As := [.int (nI i), .int (bI cs), .int (rF cs e0.1), .int (if ((rL cs e0.1) - num) < (at0 - 1) then (at0 - 1) else ((rL cs e0.1) - num))]) (rest := [.int (nI (cbE (chX sh cs at0 num) en i))]) (nc := 0) (ns := 0) C hV (k_putLines l D cI cN cZ cJ f x nx _ n ml i e0 cs (rF cs e0.1) (if ((rL cs e0.1) - num) < (at0 - 1) then (at0 - 1) else ((rL cs e0.1) - num)) hR hj (mapI_at.trans hei) (vr_le (hval i e0 hei) cs)) dX2_delete_142 rfl w_287 rfl w_284 w_1 w_286 ws_11 hd_X2_putLines rfl hW.1.1 rfl ⟨Nat.le_of_ble_eq_true rfl, Nat.le_of_ble_eq_true rfl⟩ (Nat.le_of_ble_eq_true rfl) (by decide) (by decide) (fun v u hp => ?_)
              obtain ⟨hv, hR2⟩ := hp
              refine gj_rt (f := u) (st' := [.int (bI (decide (¬ ((rF cs e0.1) = rF cs e0.1 ∧ (if ((rL cs e0.1) - num) < (at0 - 1) then (at0 - 1) else ((rL cs e0.1) - num)) = rL cs e0.1)))), .int (nI (cbE (chX sh cs at0 num) en i))]) hv rfl rfl ?_
              refine gj_iadd C dX2_delete_145 ?_
              refine gj_istore (lw' := [some (.ref x), some (.int sh), some (.int (bI cs)), some (.int at0), some (.int num), some (.int ((nI (cbE (chX sh cs at0 num) en i)) + (bI (decide (¬ ((rF cs e0.1) = rF cs e0.1 ∧ (if ((rL cs e0.1) - num) < (at0 - 1) then (at0 - 1) else ((rL cs e0.1) - num)) = rL cs e0.1)))))), some (.int (nI i)), some (.ref z), some (.int (rF cs e0.1)), some (.int (rL cs e0.1)), some (.int (rF cs e0.1)), some (.int (if ((rL cs e0.1) - num) < (at0 - 1) then (at0 - 1) else ((rL cs e0.1) - num)))]) C dX2_delete_146 (by decide) rfl rfl ?_
              refine gj_iinc (v := (nI (i + 1))) (lw' := [some (.ref x), some (.int sh), some (.int (bI cs)), some (.int at0), some (.int num), some (.int ((nI (cbE (chX sh cs at0 num) en i)) + (bI (decide (¬ ((rF cs e0.1) = rF cs e0.1 ∧ (if ((rL cs e0.1) - num) < (at0 - 1) then (at0 - 1) else ((rL cs e0.1) - num)) = rL cs e0.1)))))), some (.int (nI (i + 1))), some (.ref z), some (.int (rF cs e0.1)), some (.int (rL cs e0.1)), some (.int (rF cs e0.1)), some (.int (if ((rL cs e0.1) - num) < (at0 - 1) then (at0 - 1) else ((rL cs e0.1) - num)))]) C dX2_delete_148 rfl (nI_1 i) (by decide) rfl rfl ?_
              refine gj_goto (tgt := 27) C dX2_delete_151 (by decide) ?_
              refine gj_un 7 (lw' := [some (.ref x), some (.int sh), some (.int (bI cs)), some (.int at0), some (.int num), some (.int ((nI (cbE (chX sh cs at0 num) en i)) + (bI (decide (¬ ((rF cs e0.1) = rF cs e0.1 ∧ (if ((rL cs e0.1) - num) < (at0 - 1) then (at0 - 1) else ((rL cs e0.1) - num)) = rL cs e0.1)))))), some (.int (nI (i + 1))), none, some (.int (rF cs e0.1)), some (.int (rL cs e0.1)), some (.int (rF cs e0.1)), some (.int (if ((rL cs e0.1) - num) < (at0 - 1) then (at0 - 1) else ((rL cs e0.1) - num)))]) rfl ?_
              refine gj_un 8 (lw' := [some (.ref x), some (.int sh), some (.int (bI cs)), some (.int at0), some (.int num), some (.int ((nI (cbE (chX sh cs at0 num) en i)) + (bI (decide (¬ ((rF cs e0.1) = rF cs e0.1 ∧ (if ((rL cs e0.1) - num) < (at0 - 1) then (at0 - 1) else ((rL cs e0.1) - num)) = rL cs e0.1)))))), some (.int (nI (i + 1))), none, none, some (.int (rL cs e0.1)), some (.int (rF cs e0.1)), some (.int (if ((rL cs e0.1) - num) < (at0 - 1) then (at0 - 1) else ((rL cs e0.1) - num)))]) rfl ?_
              refine gj_un 9 (lw' := [some (.ref x), some (.int sh), some (.int (bI cs)), some (.int at0), some (.int num), some (.int ((nI (cbE (chX sh cs at0 num) en i)) + (bI (decide (¬ ((rF cs e0.1) = rF cs e0.1 ∧ (if ((rL cs e0.1) - num) < (at0 - 1) then (at0 - 1) else ((rL cs e0.1) - num)) = rL cs e0.1)))))), some (.int (nI (i + 1))), none, none, none, some (.int (rF cs e0.1)), some (.int (if ((rL cs e0.1) - num) < (at0 - 1) then (at0 - 1) else ((rL cs e0.1) - num)))]) rfl ?_
              refine gj_un 10 (lw' := [some (.ref x), some (.int sh), some (.int (bI cs)), some (.int at0), some (.int num), some (.int ((nI (cbE (chX sh cs at0 num) en i)) + (bI (decide (¬ ((rF cs e0.1) = rF cs e0.1 ∧ (if ((rL cs e0.1) - num) < (at0 - 1) then (at0 - 1) else ((rL cs e0.1) - num)) = rL cs e0.1)))))), some (.int (nI (i + 1))), none, none, none, none, some (.int (if ((rL cs e0.1) - num) < (at0 - 1) then (at0 - 1) else ((rL cs e0.1) - num)))]) rfl ?_
              refine gj_un 11 (lw' := [some (.ref x), some (.int sh), some (.int (bI cs)), some (.int at0), some (.int num), some (.int ((nI (cbE (chX sh cs at0 num) en i)) + (bI (decide (¬ ((rF cs e0.1) = rF cs e0.1 ∧ (if ((rL cs e0.1) - num) < (at0 - 1) then (at0 - 1) else ((rL cs e0.1) - num)) = rL cs e0.1)))))), some (.int (nI (i + 1))), none, none, none, none, none]) rfl ?_
              have h9 := ih (i + 1) u (by omega) (by rw [mapI_s hei, phX_y (bI_p1 c2), delA_f c5, delB_t c7]; exact hR2)
              rw [cb_step hei, chX_y (bI_p1 c2), delA_f c5, delB_t c7] at h9
              exact h9
            · refine gj_iload C dX2_delete_114 rfl ?_
              refine gj_goto (tgt := 130) C dX2_delete_116 (by decide) ?_
              refine gj_istore (lw' := [some (.ref x), some (.int sh), some (.int (bI cs)), some (.int at0), some (.int num), some (.int (nI (cbE (chX sh cs at0 num) en i))), some (.int (nI i)), some (.ref z), some (.int (rF cs e0.1)), some (.int (rL cs e0.1)), some (.int (rF cs e0.1)), some (.int (rL cs e0.1))]) C dX2_delete_130 (by decide) rfl rfl ?_
              refine gj_iload C dX2_delete_132 rfl ?_
              refine gj_aload_n C dX2_delete_134 rfl ?_
              refine gj_iload C dX2_delete_135 rfl ?_
              refine gj_iload_n C dX2_delete_137 rfl ?_
              refine gj_iload C dX2_delete_138 rfl ?_
              refine gj_iload C dX2_delete_140 rfl ?_
              refine gj_cV (As := [.int (nI i), .int (bI cs), .int (rF cs e0.1), .int (rL cs e0.1)]) (rest := [.int (nI (cbE (chX sh cs at0 num) en i))]) (nc := 0) (ns := 0) C hV (k_putLines l D cI cN cZ cJ f x nx _ n ml i e0 cs (rF cs e0.1) (rL cs e0.1) hR hj (mapI_at.trans hei) (vr_le (hval i e0 hei) cs)) dX2_delete_142 rfl w_287 rfl w_284 w_1 w_286 ws_11 hd_X2_putLines rfl hW.1.1 rfl ⟨Nat.le_of_ble_eq_true rfl, Nat.le_of_ble_eq_true rfl⟩ (Nat.le_of_ble_eq_true rfl) (by decide) (by decide) (fun v u hp => ?_)
              obtain ⟨hv, hR2⟩ := hp
              refine gj_rt (f := u) (st' := [.int (bI (decide (¬ ((rF cs e0.1) = rF cs e0.1 ∧ (rL cs e0.1) = rL cs e0.1)))), .int (nI (cbE (chX sh cs at0 num) en i))]) hv rfl rfl ?_
              refine gj_iadd C dX2_delete_145 ?_
              refine gj_istore (lw' := [some (.ref x), some (.int sh), some (.int (bI cs)), some (.int at0), some (.int num), some (.int ((nI (cbE (chX sh cs at0 num) en i)) + (bI (decide (¬ ((rF cs e0.1) = rF cs e0.1 ∧ (rL cs e0.1) = rL cs e0.1)))))), some (.int (nI i)), some (.ref z), some (.int (rF cs e0.1)), some (.int (rL cs e0.1)), some (.int (rF cs e0.1)), some (.int (rL cs e0.1))]) C dX2_delete_146 (by decide) rfl rfl ?_
              refine gj_iinc (v := (nI (i + 1))) (lw' := [some (.ref x), some (.int sh), some (.int (bI cs)), some (.int at0), some (.int num), some (.int ((nI (cbE (chX sh cs at0 num) en i)) + (bI (decide (¬ ((rF cs e0.1) = rF cs e0.1 ∧ (rL cs e0.1) = rL cs e0.1)))))), some (.int (nI (i + 1))), some (.ref z), some (.int (rF cs e0.1)), some (.int (rL cs e0.1)), some (.int (rF cs e0.1)), some (.int (rL cs e0.1))]) C dX2_delete_148 rfl (nI_1 i) (by decide) rfl rfl ?_
              refine gj_goto (tgt := 27) C dX2_delete_151 (by decide) ?_
              refine gj_un 7 (lw' := [some (.ref x), some (.int sh), some (.int (bI cs)), some (.int at0), some (.int num), some (.int ((nI (cbE (chX sh cs at0 num) en i)) + (bI (decide (¬ ((rF cs e0.1) = rF cs e0.1 ∧ (rL cs e0.1) = rL cs e0.1)))))), some (.int (nI (i + 1))), none, some (.int (rF cs e0.1)), some (.int (rL cs e0.1)), some (.int (rF cs e0.1)), some (.int (rL cs e0.1))]) rfl ?_
              refine gj_un 8 (lw' := [some (.ref x), some (.int sh), some (.int (bI cs)), some (.int at0), some (.int num), some (.int ((nI (cbE (chX sh cs at0 num) en i)) + (bI (decide (¬ ((rF cs e0.1) = rF cs e0.1 ∧ (rL cs e0.1) = rL cs e0.1)))))), some (.int (nI (i + 1))), none, none, some (.int (rL cs e0.1)), some (.int (rF cs e0.1)), some (.int (rL cs e0.1))]) rfl ?_
              refine gj_un 9 (lw' := [some (.ref x), some (.int sh), some (.int (bI cs)), some (.int at0), some (.int num), some (.int ((nI (cbE (chX sh cs at0 num) en i)) + (bI (decide (¬ ((rF cs e0.1) = rF cs e0.1 ∧ (rL cs e0.1) = rL cs e0.1)))))), some (.int (nI (i + 1))), none, none, none, some (.int (rF cs e0.1)), some (.int (rL cs e0.1))]) rfl ?_
              refine gj_un 10 (lw' := [some (.ref x), some (.int sh), some (.int (bI cs)), some (.int at0), some (.int num), some (.int ((nI (cbE (chX sh cs at0 num) en i)) + (bI (decide (¬ ((rF cs e0.1) = rF cs e0.1 ∧ (rL cs e0.1) = rL cs e0.1)))))), some (.int (nI (i + 1))), none, none, none, none, some (.int (rL cs e0.1))]) rfl ?_
              refine gj_un 11 (lw' := [some (.ref x), some (.int sh), some (.int (bI cs)), some (.int at0), some (.int num), some (.int ((nI (cbE (chX sh cs at0 num) en i)) + (bI (decide (¬ ((rF cs e0.1) = rF cs e0.1 ∧ (rL cs e0.1) = rL cs e0.1)))))), some (.int (nI (i + 1))), none, none, none, none, none]) rfl ?_
              have h9 := ih (i + 1) u (by omega) (by rw [mapI_s hei, phX_y (bI_p1 c2), delA_f c5, delB_f c7]; exact hR2)
              rw [cb_step hei, chX_y (bI_p1 c2), delA_f c5, delB_f c7] at h9
              exact h9
  refine gj_iload_n C dX2_delete_0 rfl ?_
  refine gj_iload_n C dX2_delete_1 rfl ?_
  refine gj_iload_n C dX2_delete_2 rfl ?_
  refine gj_iload C dX2_delete_3 rfl ?_
  refine gj_cS (As := [.int sh, .int (bI cs), .int at0, .int num]) (rest := []) (nc := 1) (ns := 6) C hV (k_areLines l D (tyl cI cN cZ cJ) f sh cs at0 num) dX2_delete_5 rfl w_267 rfl w_265 w_1 w_266 hd_X2_areLines rfl ⟨Nat.le_of_ble_eq_true rfl, Nat.le_of_ble_eq_true rfl⟩ (Nat.le_of_ble_eq_true rfl) (by decide) (by decide) (fun v u hp8 => ?_)
  refine gj_rt (st' := [.int (bI (decide (vn sh cs at0 num)))]) hp8.1 hp8.2 rfl ?_
  refine gj_if_ne (tgt := 21) C dX2_delete_8 (by decide) (fun c9 => ?_) (fun c9 => ?_)
  · refine gj_iconst (v := 0) C dX2_delete_21 (by decide) ?_
    refine gj_istore (lw' := [some (.ref x), some (.int sh), some (.int (bI cs)), some (.int at0), some (.int num), some (.int 0), none, none, none, none, none, none]) C dX2_delete_22 (by decide) rfl rfl ?_
    refine gj_iconst (v := 0) C dX2_delete_24 (by decide) ?_
    refine gj_istore (lw' := [some (.ref x), some (.int sh), some (.int (bI cs)), some (.int at0), some (.int num), some (.int 0), some (.int 0), none, none, none, none, none]) C dX2_delete_25 (by decide) rfl rfl ?_
    refine gj_nc (Nat.zero_le _) (Nat.zero_le _) ?_
    exact loop (bI_p1 c9) n 0 f (by omega) (by rw [mapI_0]; exact hR)
  · exact gj_throwS C hV hV2 hZ hl hT hlk dX2_delete_11 dX2_delete_14 dX2_delete_15 dX2_delete_17 dX2_delete_20 xfit_IA w_119 w_7 (List.mem_of_getElem? (i := 4) rfl) xat1_IA xat2_IA xgd_IA (Nat.le_of_ble_eq_true rfl) (Nat.le_of_ble_eq_true rfl) (Nat.le_of_ble_eq_true rfl) (Nat.le_of_ble_eq_true rfl) (⟨bI_p0 c9, rfl, hR⟩)
set_option maxRecDepth 100000 in
set_option maxHeartbeats 4000000 in
theorem k_move (l : Launch) (hl : l.stackTraces = false) (D : va_G) (cI cN cZ cJ : ClassId) (f : gm) (x : Nat) (nx : Option Rc) (en : Nat → Option En) (n : Nat) (ml : List Nat) (sh rw co : Int32) (hR : Rp cI cN f x nx en n ml) : gkx l yX2_move (.code yX2_move cX2_move 5 (Option.some Jvm.ClassFile.FieldType.int)) (rmk 5 2 11) D (tyl cI cN cZ cJ) [.ref x, .int sh, .int rw, .int co] f (fun v u => ∃ r9, nx = some r9 ∧ vc sh rw co ∧ vc sh (rM sh (rw - r9.2.1) (co - r9.2.2.1) r9).2.2.2.1 (rM sh (rw - r9.2.1) (co - r9.2.2.1) r9).2.2.2.2 ∧ v = some (.int (nI (cbE (chM r9 (rM sh (rw - r9.2.1) (co - r9.2.2.1) r9)) en 4096))) ∧ Rp cI cN u x nx (mapE (phM r9 (rM sh (rw - r9.2.1) (co - r9.2.2.1) r9)) en) n ml) (fun E u => ((¬ vc sh rw co ∧ E = xIA) ∨ (vc sh rw co ∧ nx = none ∧ E = xIS) ∨ (vc sh rw co ∧ (∃ r9, nx = some r9 ∧ ¬ vc sh (rM sh (rw - r9.2.1) (co - r9.2.2.1) r9).2.2.2.1 (rM sh (rw - r9.2.1) (co - r9.2.2.1) r9).2.2.2.2) ∧ E = xIA)) ∧ Rp cI cN u x nx en n ml) := by
  refine gkx_of [some (.ref x), some (.int sh), some (.int rw), some (.int co), none] (by decide) rfl (Nat.le_of_ble_eq_true rfl) rfl ?_
  intro p e s m args below meth c A C hV hr hlk hnm hV2 hZ hT
  obtain ⟨q, hE, hM, k, g, mf, ar, hW⟩ := hR
  have hn : n ≤ 1024 := hW.2.2.2.1.2.1
  have hk : k ≤ 1024 := hW.2.2.2.1.2.2.1
  have hd := hW.2.2.2.1.1
  cases nx with
  | none =>
    have hq : q = none := hW.2.1.1
    subst hq
    refine gj_iload_n C dX2_move_0 rfl ?_
    refine gj_iload_n C dX2_move_1 rfl ?_
    refine gj_iload_n C dX2_move_2 rfl ?_
    refine gj_cS (As := [.int sh, .int rw, .int co]) (rest := []) (nc := 2) (ns := 11) C hV (k_isCell l D (tyl cI cN cZ cJ) f sh rw co) dX2_move_3 rfl w_44 rfl w_42 w_1 w_43 hd_X2_isCell rfl ⟨Nat.le_of_ble_eq_true rfl, Nat.le_of_ble_eq_true rfl⟩ (Nat.le_of_ble_eq_true rfl) (by decide) (by decide) (fun v u hp1 => ?_)
    refine gj_rt (st' := [.int (bI (decide (vc sh rw co)))]) hp1.1 hp1.2 rfl ?_
    refine gj_if_ne (tgt := 19) C dX2_move_6 (by decide) (fun c2 => ?_) (fun c2 => ?_)
    · refine gj_aload_n C dX2_move_19 rfl ?_
      refine gj_get C dX2_move_20 hW.1.1 rfl inX2 0 (by decide) w_21 rfl ?_
      refine gj_ifnonnullN C dX2_move_23 ?_
      exact gj_throwS C hV hV2 hZ hl hT hlk dX2_move_26 dX2_move_29 dX2_move_30 dX2_move_32 dX2_move_35 xfit_IS w_188 w_8 (List.mem_of_getElem? (i := 0) rfl) xat1_IS xat2_IS xgd_IS (Nat.le_of_ble_eq_true rfl) (Nat.le_of_ble_eq_true rfl) (Nat.le_of_ble_eq_true rfl) (Nat.le_of_ble_eq_true rfl) (⟨Or.inr (Or.inl ⟨bI_p1 c2, rfl, rfl⟩), ⟨_, hE, hM, k, g, mf, ar, hW⟩⟩)
    · exact gj_throwS C hV hV2 hZ hl hT hlk dX2_move_9 dX2_move_12 dX2_move_13 dX2_move_15 dX2_move_18 xfit_IA w_119 w_7 (List.mem_of_getElem? (i := 5) rfl) xat1_IA xat2_IA xgd_IA (Nat.le_of_ble_eq_true rfl) (Nat.le_of_ble_eq_true rfl) (Nat.le_of_ble_eq_true rfl) (Nat.le_of_ble_eq_true rfl) (⟨Or.inl ⟨bI_p0 c2, rfl⟩, ⟨_, hE, hM, k, g, mf, ar, hW⟩⟩)
  | some r =>
    obtain ⟨a, hq, ha⟩ := hW.2.1.1
    subst hq
    have hbn : ∀ b, f b = none → ∀ i, i < n → en i ≠ none → ar i ≠ b := by
      intro b hb i hi he h
      cases hei : en i with
      | none => exact he hei
      | some e0 =>
        obtain ⟨z, z1, z2, z3⟩ := rpw_at hW hi hei
        rw [h, hb] at z3
        cases z3
    refine gj_iload_n C dX2_move_0 rfl ?_
    refine gj_iload_n C dX2_move_1 rfl ?_
    refine gj_iload_n C dX2_move_2 rfl ?_
    refine gj_cS (As := [.int sh, .int rw, .int co]) (rest := []) (nc := 2) (ns := 11) C hV (k_isCell l D (tyl cI cN cZ cJ) f sh rw co) dX2_move_3 rfl w_44 rfl w_42 w_1 w_43 hd_X2_isCell rfl ⟨Nat.le_of_ble_eq_true rfl, Nat.le_of_ble_eq_true rfl⟩ (Nat.le_of_ble_eq_true rfl) (by decide) (by decide) (fun v u hp3 => ?_)
    refine gj_rt (st' := [.int (bI (decide (vc sh rw co)))]) hp3.1 hp3.2 rfl ?_
    refine gj_if_ne (tgt := 19) C dX2_move_6 (by decide) (fun c4 => ?_) (fun c4 => ?_)
    · refine gj_aload_n C dX2_move_19 rfl ?_
      refine gj_get C dX2_move_20 hW.1.1 rfl inX2 0 (by decide) w_21 rfl ?_
      refine gj_ifnonnull (tgt := 36) C dX2_move_23 (by decide) ?_
      refine gj_aload_n C dX2_move_36 rfl ?_
      refine gj_get C dX2_move_37 hW.1.1 rfl inX2 0 (by decide) w_21 rfl ?_
      refine gj_cVN (As := []) (rest := []) (nc := 1) (ns := 6) C hV (k_Area_copy l D (tyl cI cN cZ cJ) f a r ha) dX2_move_40 rfl w_219 rfl nw_6 w_3 w_218 ws_5 hd_X0_copy rfl ha rfl ⟨Nat.le_of_ble_eq_true rfl, Nat.le_of_ble_eq_true rfl⟩ (Nat.le_of_ble_eq_true rfl) (by decide) (by decide) (fun v u hp => ?_)
      obtain ⟨b, hv, hb, hu⟩ := hp
      refine gj_rt (st' := [.ref b]) hv hu rfl ?_
      refine gj_astore (lw' := [some (.ref x), some (.int sh), some (.int rw), some (.int co), some (.ref b)]) C dX2_move_43 (by decide) rfl rfl ?_
      refine gj_aload C dX2_move_45 rfl ?_
      refine gj_iload_n C dX2_move_47 rfl ?_
      refine gj_iload_n C dX2_move_48 rfl ?_
      refine gj_aload_n C dX2_move_49 rfl ?_
      refine gj_get C dX2_move_50 (gm_up_of hW.1.1 hb) rfl inX2 0 (by decide) w_21 rfl ?_
      refine gj_getN C dX2_move_53 (gm_up_of ha hb) rfl inX0 1 (by decide) (hV.2.1 _ nw_2) rfl ?_
      refine gj_isub C dX2_move_56 ?_
      refine gj_iload_n C dX2_move_57 rfl ?_
      refine gj_aload_n C dX2_move_58 rfl ?_
      refine gj_get C dX2_move_59 (gm_up_of hW.1.1 hb) rfl inX2 0 (by decide) w_21 rfl ?_
      refine gj_getN C dX2_move_62 (gm_up_of ha hb) rfl inX0 2 (by decide) (hV.2.1 _ nw_3) rfl ?_
      refine gj_isub C dX2_move_65 ?_
      refine gj_cVN (As := [.int sh, .int (rw - r.2.1), .int (co - r.2.2.1)]) (rest := []) (nc := 1) (ns := 6) C hV (k_Area_shift l D (tyl cI cN cZ cJ) (gm_up f b (cAr r)) b r sh (rw - r.2.1) (co - r.2.2.1) gm_up_self) dX2_move_66 rfl w_313 rfl nw_16 w_3 w_312 ws_13 hd_X0_shift rfl gm_up_self rfl ⟨Nat.le_of_ble_eq_true rfl, Nat.le_of_ble_eq_true rfl⟩ (Nat.le_of_ble_eq_true rfl) (by decide) (by decide) (fun v u hp5 => ?_)
      refine gj_rt (f := (gm_up f b (cAr (rM sh (rw - r.2.1) (co - r.2.2.1) r)))) (st' := []) hp5.1 (hp5.2.trans gm_up_up) rfl ?_
      refine gj_iload_n C dX2_move_69 rfl ?_
      refine gj_aload C dX2_move_70 rfl ?_
      refine gj_getN C dX2_move_72 gm_up_self rfl inX0 3 (by decide) (hV.2.1 _ nw_4) rfl ?_
      refine gj_aload C dX2_move_75 rfl ?_
      refine gj_getN C dX2_move_77 gm_up_self rfl inX0 4 (by decide) (hV.2.1 _ nw_5) rfl ?_
      refine gj_cS (As := [.int sh, .int (rM sh (rw - r.2.1) (co - r.2.2.1) r).2.2.2.1, .int (rM sh (rw - r.2.1) (co - r.2.2.1) r).2.2.2.2]) (rest := []) (nc := 1) (ns := 6) C hV (k_isCell l D (tyl cI cN cZ cJ) (gm_up f b (cAr (rM sh (rw - r.2.1) (co - r.2.2.1) r))) sh (rM sh (rw - r.2.1) (co - r.2.2.1) r).2.2.2.1 (rM sh (rw - r.2.1) (co - r.2.2.1) r).2.2.2.2) dX2_move_80 rfl w_44 rfl w_42 w_1 w_43 hd_X2_isCell rfl ⟨Nat.le_of_ble_eq_true rfl, Nat.le_of_ble_eq_true rfl⟩ (Nat.le_of_ble_eq_true rfl) (by decide) (by decide) (fun v u hp6 => ?_)
      refine gj_rt (st' := [.int (bI (decide (vc sh (rM sh (rw - r.2.1) (co - r.2.2.1) r).2.2.2.1 (rM sh (rw - r.2.1) (co - r.2.2.1) r).2.2.2.2)))]) hp6.1 hp6.2 rfl ?_
      refine gj_if_ne (tgt := 96) C dX2_move_83 (by decide) (fun c7 => ?_) (fun c7 => ?_)
      · refine gj_aload_n C dX2_move_96 rfl ?_
        refine gj_aload_n C dX2_move_97 rfl ?_
        refine gj_get C dX2_move_98 (gm_up_of hW.1.1 hb) rfl inX2 0 (by decide) w_21 rfl ?_
        refine gj_aload C dX2_move_101 rfl ?_
        refine gj_cV (As := [.ref a, .ref b]) (rest := []) (nc := 1) (ns := 6) C hV (k_carry l D cI cN cZ cJ (gm_up f b (cAr (rM sh (rw - r.2.1) (co - r.2.2.1) r))) x (some r) en n ml hE hM k g mf ar a b r (rM sh (rw - r.2.1) (co - r.2.2.1) r) (rpw_ext hW hb _) (gm_up_of ha hb) gm_up_self (hbn b hb) sameM_eq) dX2_move_103 rfl w_318 rfl w_315 w_1 w_317 ws_14 hd_X2_carry rfl (gm_up_of hW.1.1 hb) rfl ⟨Nat.le_of_ble_eq_true rfl, Nat.le_of_ble_eq_true rfl⟩ (Nat.le_of_ble_eq_true rfl) (by decide) (by decide) (fun v u hp => ?_)
        obtain ⟨hv, hR2⟩ := hp
        refine gj_rt (f := u) (st' := [.int (nI (cbE (chM r (rM sh (rw - r.2.1) (co - r.2.2.1) r)) en 4096))]) hv rfl rfl ?_
        exact gj_vx (gj_iret C hr hlk dX2_move_106 (⟨r, rfl, bI_p1 c4, bI_p1 c7, rfl, hR2⟩))
      · exact gj_throwS C hV hV2 hZ hl hT hlk dX2_move_86 dX2_move_89 dX2_move_90 dX2_move_92 dX2_move_95 xfit_IA w_119 w_7 (List.mem_of_getElem? (i := 6) rfl) xat1_IA xat2_IA xgd_IA (Nat.le_of_ble_eq_true rfl) (Nat.le_of_ble_eq_true rfl) (Nat.le_of_ble_eq_true rfl) (Nat.le_of_ble_eq_true rfl) (⟨Or.inr (Or.inr ⟨bI_p1 c4, ⟨r, rfl, bI_p0 c7⟩, rfl⟩), ⟨_, hE, hM, k, g, mf, ar, rpw_ext hW hb _⟩⟩)
    · exact gj_throwS C hV hV2 hZ hl hT hlk dX2_move_9 dX2_move_12 dX2_move_13 dX2_move_15 dX2_move_18 xfit_IA w_119 w_7 (List.mem_of_getElem? (i := 5) rfl) xat1_IA xat2_IA xgd_IA (Nat.le_of_ble_eq_true rfl) (Nat.le_of_ble_eq_true rfl) (Nat.le_of_ble_eq_true rfl) (Nat.le_of_ble_eq_true rfl) (⟨Or.inl ⟨bI_p0 c4, rfl⟩, ⟨_, hE, hM, k, g, mf, ar, hW⟩⟩)
