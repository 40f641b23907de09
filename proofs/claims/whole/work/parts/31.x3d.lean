/-! RangeReadersModel: insert, delete, move. By gen/m31.py. -/
set_option maxRecDepth 100000 in
set_option maxHeartbeats 4000000 in
theorem k_Minsert (l : Launch) (D : va_G) (cI cN cZ cJ : ClassId) (f : gm) (y : Nat) (cd : Int32) (nx : Option Rc) (en : Nat → Option En) (ml : List Nat) (sh : Int32) (cs : Bool) (at0 num : Int32) (hR : RpM cI cZ f y cd nx en ml) (hval : ∀ j e, en j = some e → vr e.1) : gk l yX3_insert (.code yX3_insert cX3_insert 9 (Option.some Jvm.ClassFile.FieldType.int)) (rmk 2 0 0) D (tyl cI cN cZ cJ) [.ref y, .int sh, .int (bI cs), .int at0, .int num] f (fun v u => ∃ b, v = some (.int b) ∧ ((vn sh cs at0 num ∧ b = nI (cbE (chI sh cs at0 num) en 4096) ∧ RpM cI cZ u y 0 nx (mapE (phI sh cs at0 num) en) ml) ∨ (¬ vn sh cs at0 num ∧ RpM cI cZ u y 1 nx en ml))) := by
  refine gk_of [some (.ref y), some (.int sh), some (.int (bI cs)), some (.int at0), some (.int num), none, none, none, none] (by decide) rfl (Nat.le_of_ble_eq_true rfl) rfl ?_
  intro p e s m args below meth c A C hV hr hlk hnm
  have hd : ∀ j, 4096 ≤ j → en j = none := hR.hd
  have loop : vn sh cs at0 num → ∀ (d i : Nat) (f : gm), i + d = 4096 → RpM cI cZ f y 0 nx (mapI (phI sh cs at0 num) en i) ml → gj p l e (rmk 2 0 0) s m args below meth c D vwCl A 9 (MQ below (gk_Q (fun v u => ∃ b, v = some (.int b) ∧ ((vn sh cs at0 num ∧ b = nI (cbE (chI sh cs at0 num) en 4096) ∧ RpM cI cZ u y 0 nx (mapE (phI sh cs at0 num) en) ml) ∨ (¬ vn sh cs at0 num ∧ RpM cI cZ u y 1 nx en ml))) D A) args s (rmk 2 0 0).cells (rmk 2 0 0).slots A) f 0 0 27 [some (.ref y), some (.int sh), some (.int (bI cs)), some (.int at0), some (.int num), some (.int (nI (cbE (chI sh cs at0 num) en i))), some (.int (nI i)), none, none] [] := by
    intro hok d
    induction d with
    | zero =>
      intro i f hid hR
      rw [show mapI (phI sh cs at0 num) en i = mapI (phI sh cs at0 num) en 4096 by rw [show i = 4096 by omega]] at hR
      obtain ⟨ad, ga, isR, r5, hW⟩ := hR
      refine gj_iload C dX3_insert_27 rfl ?_
      refine gj_sipush (v := 4096) C dX3_insert_29 (by decide) ?_
      refine gj_icmp_geT (tgt := 160) C dX3_insert_32 (by decide) (by rw [show i = 4096 by omega]; decide) ?_
      refine gj_iload C dX3_insert_160 rfl ?_
      exact gj_iret C hr hlk dX3_insert_162 (⟨_, rfl, Or.inl ⟨hok, by rw [show i = 4096 by omega], by rw [← mapI_end (φ := (phI sh cs at0 num)) hd]; exact ⟨ad, ga, isR, r5, hW⟩⟩⟩)
    | succ d ih =>
      intro i f hid hR
      have hj : i < 4096 := by omega
      obtain ⟨ad, ga, isR, r5, hW⟩ := hR
      cases hei : en i with
      | none =>
        have g0 := rpm_no hW hj (mapI_at.trans hei)
        refine gj_iload C dX3_insert_27 rfl ?_
        refine gj_sipush (v := 4096) C dX3_insert_29 (by decide) ?_
        refine gj_icmp_geF (tgt := 160) C dX3_insert_32 (by decide) (nI_ge hj (by decide)) ?_
        refine gj_aload_n C dX3_insert_35 rfl ?_
        refine gj_get C dX3_insert_36 hW.1.1 rfl inX3 0 (by decide) w_329 rfl ?_
        refine gj_if_neF (tgt := 160) C dX3_insert_39 (by decide) rfl ?_
        refine gj_aload_n C dX3_insert_42 rfl ?_
        refine gj_iload C dX3_insert_43 rfl ?_
        refine gj_iload_n C dX3_insert_45 rfl ?_
        refine gj_iload_n C dX3_insert_46 rfl ?_
        refine gj_cV (As := [.int (nI i), .int sh, .int (bI cs)]) (rest := []) (nc := 0) (ns := 0) C hV (k_MisPart l D cI cN cZ cJ f y _ nx _ ml ad ga isR r5 _ i sh cs hW hj) dX3_insert_47 rfl w_456 rfl w_453 w_2 w_455 ws_21 hd_X3_isPart rfl hW.1.1 rfl ⟨Nat.le_of_ble_eq_true rfl, Nat.le_of_ble_eq_true rfl⟩ (Nat.le_of_ble_eq_true rfl) (by decide) (by decide) (fun v u hp => ?_)
        refine gj_rt (st' := [.int (bI (ptb _ sh cs i))]) hp.1 hp.2 rfl ?_
        refine gj_st (st' := [.int 0]) (by rw [ptb_n (mapI_at.trans hei)] <;> rfl) ?_
        refine gj_if_neF (tgt := 56) C dX3_insert_50 (by decide) rfl ?_
        refine gj_goto (tgt := 154) C dX3_insert_53 (by decide) ?_
        refine gj_iinc (v := (nI (i + 1))) (lw' := [some (.ref y), some (.int sh), some (.int (bI cs)), some (.int at0), some (.int num), some (.int (nI (cbE (chI sh cs at0 num) en i))), some (.int (nI (i + 1))), none, none]) C dX3_insert_154 rfl (nI_1 i) (by decide) rfl rfl ?_
        refine gj_goto (tgt := 27) C dX3_insert_157 (by decide) ?_
        have h9 := ih (i + 1) f (by omega) (by rw [mapI_n hei]; exact ⟨ad, ga, isR, r5, hW⟩)
        rw [cb_n hei] at h9
        exact h9
      | some e0 =>
        obtain ⟨g0, g1, g2, g3, g4, g5, g6⟩ := rpm_at hW hj (mapI_at.trans hei)
        refine gj_iload C dX3_insert_27 rfl ?_
        refine gj_sipush (v := 4096) C dX3_insert_29 (by decide) ?_
        refine gj_icmp_geF (tgt := 160) C dX3_insert_32 (by decide) (nI_ge hj (by decide)) ?_
        refine gj_aload_n C dX3_insert_35 rfl ?_
        refine gj_get C dX3_insert_36 hW.1.1 rfl inX3 0 (by decide) w_329 rfl ?_
        refine gj_if_neF (tgt := 160) C dX3_insert_39 (by decide) rfl ?_
        refine gj_aload_n C dX3_insert_42 rfl ?_
        refine gj_iload C dX3_insert_43 rfl ?_
        refine gj_iload_n C dX3_insert_45 rfl ?_
        refine gj_iload_n C dX3_insert_46 rfl ?_
        refine gj_cV (As := [.int (nI i), .int sh, .int (bI cs)]) (rest := []) (nc := 0) (ns := 0) C hV (k_MisPart l D cI cN cZ cJ f y _ nx _ ml ad ga isR r5 _ i sh cs hW hj) dX3_insert_47 rfl w_456 rfl w_453 w_2 w_455 ws_21 hd_X3_isPart rfl hW.1.1 rfl ⟨Nat.le_of_ble_eq_true rfl, Nat.le_of_ble_eq_true rfl⟩ (Nat.le_of_ble_eq_true rfl) (by decide) (by decide) (fun v u hp => ?_)
        refine gj_rt (st' := [.int (bI (ptb _ sh cs i))]) hp.1 hp.2 rfl ?_
        refine gj_st (st' := [.int (bI (decide (rY sh cs e0.1)))]) (by rw [ptb_s (mapI_at.trans hei)]) ?_
        refine gj_if_ne (tgt := 56) C dX3_insert_50 (by decide) (fun c1 => ?_) (fun c1 => ?_)
        · refine gj_aload_n C dX3_insert_56 rfl ?_
          refine gj_iload C dX3_insert_57 rfl ?_
          refine gj_iload_n C dX3_insert_59 rfl ?_
          refine gj_cV (As := [.int (nI i), .int (bI cs)]) (rest := []) (nc := 0) (ns := 0) C hV (k_Mfirst l D cI cN cZ cJ f y _ nx _ ml ad ga isR r5 _ i e0 cs hW hj (mapI_at.trans hei)) dX3_insert_60 rfl w_460 rfl w_457 w_2 w_459 ws_22 hd_X3_first rfl hW.1.1 rfl ⟨Nat.le_of_ble_eq_true rfl, Nat.le_of_ble_eq_true rfl⟩ (Nat.le_of_ble_eq_true rfl) (by decide) (by decide) (fun v u hp2 => ?_)
          refine gj_rt (st' := [.int (rF cs e0.1)]) hp2.1 hp2.2 rfl ?_
          refine gj_iload_n C dX3_insert_63 rfl ?_
          refine gj_icmp_lt (tgt := 80) C dX3_insert_64 (by decide) (fun c3 => ?_) (fun c3 => ?_)
          · refine gj_aload_n C dX3_insert_80 rfl ?_
            refine gj_iload C dX3_insert_81 rfl ?_
            refine gj_iload_n C dX3_insert_83 rfl ?_
            refine gj_cV (As := [.int (nI i), .int (bI cs)]) (rest := []) (nc := 0) (ns := 0) C hV (k_Mfirst l D cI cN cZ cJ f y _ nx _ ml ad ga isR r5 _ i e0 cs hW hj (mapI_at.trans hei)) dX3_insert_84 rfl w_460 rfl w_457 w_2 w_459 ws_22 hd_X3_first rfl hW.1.1 rfl ⟨Nat.le_of_ble_eq_true rfl, Nat.le_of_ble_eq_true rfl⟩ (Nat.le_of_ble_eq_true rfl) (by decide) (by decide) (fun v u hp4 => ?_)
            refine gj_rt (st' := [.int (rF cs e0.1)]) hp4.1 hp4.2 rfl ?_
            refine gj_istore (lw' := [some (.ref y), some (.int sh), some (.int (bI cs)), some (.int at0), some (.int num), some (.int (nI (cbE (chI sh cs at0 num) en i))), some (.int (nI i)), some (.int (rF cs e0.1)), none]) C dX3_insert_87 (by decide) rfl rfl ?_
            refine gj_aload_n C dX3_insert_89 rfl ?_
            refine gj_iload C dX3_insert_90 rfl ?_
            refine gj_iload_n C dX3_insert_92 rfl ?_
            refine gj_cV (As := [.int (nI i), .int (bI cs)]) (rest := []) (nc := 0) (ns := 0) C hV (k_Mlast l D cI cN cZ cJ f y _ nx _ ml ad ga isR r5 _ i e0 cs hW hj (mapI_at.trans hei)) dX3_insert_93 rfl w_464 rfl w_461 w_2 w_463 ws_23 hd_X3_last rfl hW.1.1 rfl ⟨Nat.le_of_ble_eq_true rfl, Nat.le_of_ble_eq_true rfl⟩ (Nat.le_of_ble_eq_true rfl) (by decide) (by decide) (fun v u hp5 => ?_)
            refine gj_rt (st' := [.int (rL cs e0.1)]) hp5.1 hp5.2 rfl ?_
            refine gj_iload_n C dX3_insert_96 rfl ?_
            refine gj_icmp_lt (tgt := 113) C dX3_insert_97 (by decide) (fun c6 => ?_) (fun c6 => ?_)
            · refine gj_aload_n C dX3_insert_113 rfl ?_
              refine gj_iload C dX3_insert_114 rfl ?_
              refine gj_iload_n C dX3_insert_116 rfl ?_
              refine gj_cV (As := [.int (nI i), .int (bI cs)]) (rest := []) (nc := 0) (ns := 0) C hV (k_Mlast l D cI cN cZ cJ f y _ nx _ ml ad ga isR r5 _ i e0 cs hW hj (mapI_at.trans hei)) dX3_insert_117 rfl w_464 rfl w_461 w_2 w_463 ws_23 hd_X3_last rfl hW.1.1 rfl ⟨Nat.le_of_ble_eq_true rfl, Nat.le_of_ble_eq_true rfl⟩ (Nat.le_of_ble_eq_true rfl) (by decide) (by decide) (fun v u hp7 => ?_)
              refine gj_rt (st' := [.int (rL cs e0.1)]) hp7.1 hp7.2 rfl ?_
              refine gj_istore (lw' := [some (.ref y), some (.int sh), some (.int (bI cs)), some (.int at0), some (.int num), some (.int (nI (cbE (chI sh cs at0 num) en i))), some (.int (nI i)), some (.int (rF cs e0.1)), some (.int (rL cs e0.1))]) C dX3_insert_120 (by decide) rfl rfl ?_
              refine gj_iload C dX3_insert_122 rfl ?_
              refine gj_aload_n C dX3_insert_124 rfl ?_
              refine gj_iload C dX3_insert_125 rfl ?_
              refine gj_iload_n C dX3_insert_127 rfl ?_
              refine gj_iload C dX3_insert_128 rfl ?_
              refine gj_iload C dX3_insert_130 rfl ?_
              refine gj_iload_n C dX3_insert_132 rfl ?_
              refine gj_cS (As := [.int (bI cs)]) (rest := [.int (rL cs e0.1), .int (rF cs e0.1), .int (bI cs), .int (nI i), .ref y, .int (nI (cbE (chI sh cs at0 num) en i))]) (nc := 0) (ns := 0) C hV (k_linesOf l D (tyl cI cN cZ cJ) f cs) dX3_insert_133 rfl w_452 rfl w_450 w_2 w_451 hd_X3_linesOf rfl ⟨Nat.le_of_ble_eq_true rfl, Nat.le_of_ble_eq_true rfl⟩ (Nat.le_of_ble_eq_true rfl) (by decide) (by decide) (fun v u hp8 => ?_)
              refine gj_rt (st' := [.int (ll cs), .int (rL cs e0.1), .int (rF cs e0.1), .int (bI cs), .int (nI i), .ref y, .int (nI (cbE (chI sh cs at0 num) en i))]) hp8.1 hp8.2 rfl ?_
              refine gj_icmp_leT (tgt := 146) C dX3_insert_136 (by decide) (vr_ll (hval i e0 hei) cs) ?_
              refine gj_iload C dX3_insert_146 rfl ?_
              refine gj_cV (As := [.int (nI i), .int (bI cs), .int (rF cs e0.1), .int (rL cs e0.1)]) (rest := [.int (nI (cbE (chI sh cs at0 num) en i))]) (nc := 0) (ns := 0) C hV (k_Mbecome l D cI cN cZ cJ f y 0 nx _ ml i e0 cs (rF cs e0.1) (rL cs e0.1) ⟨ad, ga, isR, r5, hW⟩ hj (mapI_at.trans hei)) dX3_insert_148 rfl w_468 rfl w_465 w_2 w_467 ws_24 hd_X3_become rfl hW.1.1 rfl ⟨Nat.le_of_ble_eq_true rfl, Nat.le_of_ble_eq_true rfl⟩ (Nat.le_of_ble_eq_true rfl) (by decide) (by decide) (fun v u hp => ?_)
              obtain ⟨hv, hR2⟩ := hp
              refine gj_rt (f := u) (st' := [.int (bI (decide (¬ ((rF cs e0.1) = rF cs e0.1 ∧ (rL cs e0.1) = rL cs e0.1)))), .int (nI (cbE (chI sh cs at0 num) en i))]) hv rfl rfl ?_
              refine gj_iadd C dX3_insert_151 ?_
              refine gj_istore (lw' := [some (.ref y), some (.int sh), some (.int (bI cs)), some (.int at0), some (.int num), some (.int ((nI (cbE (chI sh cs at0 num) en i)) + (bI (decide (¬ ((rF cs e0.1) = rF cs e0.1 ∧ (rL cs e0.1) = rL cs e0.1)))))), some (.int (nI i)), some (.int (rF cs e0.1)), some (.int (rL cs e0.1))]) C dX3_insert_152 (by decide) rfl rfl ?_
              refine gj_iinc (v := (nI (i + 1))) (lw' := [some (.ref y), some (.int sh), some (.int (bI cs)), some (.int at0), some (.int num), some (.int ((nI (cbE (chI sh cs at0 num) en i)) + (bI (decide (¬ ((rF cs e0.1) = rF cs e0.1 ∧ (rL cs e0.1) = rL cs e0.1)))))), some (.int (nI (i + 1))), some (.int (rF cs e0.1)), some (.int (rL cs e0.1))]) C dX3_insert_154 rfl (nI_1 i) (by decide) rfl rfl ?_
              refine gj_goto (tgt := 27) C dX3_insert_157 (by decide) ?_
              refine gj_un 7 (lw' := [some (.ref y), some (.int sh), some (.int (bI cs)), some (.int at0), some (.int num), some (.int ((nI (cbE (chI sh cs at0 num) en i)) + (bI (decide (¬ ((rF cs e0.1) = rF cs e0.1 ∧ (rL cs e0.1) = rL cs e0.1)))))), some (.int (nI (i + 1))), none, some (.int (rL cs e0.1))]) rfl ?_
              refine gj_un 8 (lw' := [some (.ref y), some (.int sh), some (.int (bI cs)), some (.int at0), some (.int num), some (.int ((nI (cbE (chI sh cs at0 num) en i)) + (bI (decide (¬ ((rF cs e0.1) = rF cs e0.1 ∧ (rL cs e0.1) = rL cs e0.1)))))), some (.int (nI (i + 1))), none, none]) rfl ?_
              have h9 := ih (i + 1) u (by omega) (by rw [mapI_s hei, phI_y (bI_p1 c1), insA_2 c3, insB_3 c6]; exact hR2)
              rw [cb_step hei, chI_y (bI_p1 c1), insA_2 c3, insB_3 c6] at h9
              exact h9
            · refine gj_aload_n C dX3_insert_100 rfl ?_
              refine gj_iload C dX3_insert_101 rfl ?_
              refine gj_iload_n C dX3_insert_103 rfl ?_
              refine gj_cV (As := [.int (nI i), .int (bI cs)]) (rest := []) (nc := 0) (ns := 0) C hV (k_Mlast l D cI cN cZ cJ f y _ nx _ ml ad ga isR r5 _ i e0 cs hW hj (mapI_at.trans hei)) dX3_insert_104 rfl w_464 rfl w_461 w_2 w_463 ws_23 hd_X3_last rfl hW.1.1 rfl ⟨Nat.le_of_ble_eq_true rfl, Nat.le_of_ble_eq_true rfl⟩ (Nat.le_of_ble_eq_true rfl) (by decide) (by decide) (fun v u hp9 => ?_)
              refine gj_rt (st' := [.int (rL cs e0.1)]) hp9.1 hp9.2 rfl ?_
              refine gj_iload C dX3_insert_107 rfl ?_
              refine gj_iadd C dX3_insert_109 ?_
              refine gj_goto (tgt := 120) C dX3_insert_110 (by decide) ?_
              refine gj_istore (lw' := [some (.ref y), some (.int sh), some (.int (bI cs)), some (.int at0), some (.int num), some (.int (nI (cbE (chI sh cs at0 num) en i))), some (.int (nI i)), some (.int (rF cs e0.1)), some (.int ((rL cs e0.1) + num))]) C dX3_insert_120 (by decide) rfl rfl ?_
              refine gj_iload C dX3_insert_122 rfl ?_
              refine gj_aload_n C dX3_insert_124 rfl ?_
              refine gj_iload C dX3_insert_125 rfl ?_
              refine gj_iload_n C dX3_insert_127 rfl ?_
              refine gj_iload C dX3_insert_128 rfl ?_
              refine gj_iload C dX3_insert_130 rfl ?_
              refine gj_iload_n C dX3_insert_132 rfl ?_
              refine gj_cS (As := [.int (bI cs)]) (rest := [.int ((rL cs e0.1) + num), .int (rF cs e0.1), .int (bI cs), .int (nI i), .ref y, .int (nI (cbE (chI sh cs at0 num) en i))]) (nc := 0) (ns := 0) C hV (k_linesOf l D (tyl cI cN cZ cJ) f cs) dX3_insert_133 rfl w_452 rfl w_450 w_2 w_451 hd_X3_linesOf rfl ⟨Nat.le_of_ble_eq_true rfl, Nat.le_of_ble_eq_true rfl⟩ (Nat.le_of_ble_eq_true rfl) (by decide) (by decide) (fun v u hp10 => ?_)
              refine gj_rt (st' := [.int (ll cs), .int ((rL cs e0.1) + num), .int (rF cs e0.1), .int (bI cs), .int (nI i), .ref y, .int (nI (cbE (chI sh cs at0 num) en i))]) hp10.1 hp10.2 rfl ?_
              refine gj_icmp_le (tgt := 146) C dX3_insert_136 (by decide) (fun c11 => ?_) (fun c11 => ?_)
              · refine gj_iload C dX3_insert_146 rfl ?_
                refine gj_cV (As := [.int (nI i), .int (bI cs), .int (rF cs e0.1), .int ((rL cs e0.1) + num)]) (rest := [.int (nI (cbE (chI sh cs at0 num) en i))]) (nc := 0) (ns := 0) C hV (k_Mbecome l D cI cN cZ cJ f y 0 nx _ ml i e0 cs (rF cs e0.1) ((rL cs e0.1) + num) ⟨ad, ga, isR, r5, hW⟩ hj (mapI_at.trans hei)) dX3_insert_148 rfl w_468 rfl w_465 w_2 w_467 ws_24 hd_X3_become rfl hW.1.1 rfl ⟨Nat.le_of_ble_eq_true rfl, Nat.le_of_ble_eq_true rfl⟩ (Nat.le_of_ble_eq_true rfl) (by decide) (by decide) (fun v u hp => ?_)
                obtain ⟨hv, hR2⟩ := hp
                refine gj_rt (f := u) (st' := [.int (bI (decide (¬ ((rF cs e0.1) = rF cs e0.1 ∧ ((rL cs e0.1) + num) = rL cs e0.1)))), .int (nI (cbE (chI sh cs at0 num) en i))]) hv rfl rfl ?_
                refine gj_iadd C dX3_insert_151 ?_
                refine gj_istore (lw' := [some (.ref y), some (.int sh), some (.int (bI cs)), some (.int at0), some (.int num), some (.int ((nI (cbE (chI sh cs at0 num) en i)) + (bI (decide (¬ ((rF cs e0.1) = rF cs e0.1 ∧ ((rL cs e0.1) + num) = rL cs e0.1)))))), some (.int (nI i)), some (.int (rF cs e0.1)), some (.int ((rL cs e0.1) + num))]) C dX3_insert_152 (by decide) rfl rfl ?_
                refine gj_iinc (v := (nI (i + 1))) (lw' := [some (.ref y), some (.int sh), some (.int (bI cs)), some (.int at0), some (.int num), some (.int ((nI (cbE (chI sh cs at0 num) en i)) + (bI (decide (¬ ((rF cs e0.1) = rF cs e0.1 ∧ ((rL cs e0.1) + num) = rL cs e0.1)))))), some (.int (nI (i + 1))), some (.int (rF cs e0.1)), some (.int ((rL cs e0.1) + num))]) C dX3_insert_154 rfl (nI_1 i) (by decide) rfl rfl ?_
                refine gj_goto (tgt := 27) C dX3_insert_157 (by decide) ?_
                refine gj_un 7 (lw' := [some (.ref y), some (.int sh), some (.int (bI cs)), some (.int at0), some (.int num), some (.int ((nI (cbE (chI sh cs at0 num) en i)) + (bI (decide (¬ ((rF cs e0.1) = rF cs e0.1 ∧ ((rL cs e0.1) + num) = rL cs e0.1)))))), some (.int (nI (i + 1))), none, some (.int ((rL cs e0.1) + num))]) rfl ?_
                refine gj_un 8 (lw' := [some (.ref y), some (.int sh), some (.int (bI cs)), some (.int at0), some (.int num), some (.int ((nI (cbE (chI sh cs at0 num) en i)) + (bI (decide (¬ ((rF cs e0.1) = rF cs e0.1 ∧ ((rL cs e0.1) + num) = rL cs e0.1)))))), some (.int (nI (i + 1))), none, none]) rfl ?_
                have h9 := ih (i + 1) u (by omega) (by rw [mapI_s hei, phI_y (bI_p1 c1), insA_2 c3, insB_1 c6 c11]; exact hR2)
                rw [cb_step hei, chI_y (bI_p1 c1), insA_2 c3, insB_1 c6 c11] at h9
                exact h9
              · refine gj_iload_n C dX3_insert_139 rfl ?_
                refine gj_cS (As := [.int (bI cs)]) (rest := [.int (rF cs e0.1), .int (bI cs), .int (nI i), .ref y, .int (nI (cbE (chI sh cs at0 num) en i))]) (nc := 0) (ns := 0) C hV (k_linesOf l D (tyl cI cN cZ cJ) f cs) dX3_insert_140 rfl w_452 rfl w_450 w_2 w_451 hd_X3_linesOf rfl ⟨Nat.le_of_ble_eq_true rfl, Nat.le_of_ble_eq_true rfl⟩ (Nat.le_of_ble_eq_true rfl) (by decide) (by decide) (fun v u hp12 => ?_)
                refine gj_rt (st' := [.int (ll cs), .int (rF cs e0.1), .int (bI cs), .int (nI i), .ref y, .int (nI (cbE (chI sh cs at0 num) en i))]) hp12.1 hp12.2 rfl ?_
                refine gj_goto (tgt := 148) C dX3_insert_143 (by decide) ?_
                refine gj_cV (As := [.int (nI i), .int (bI cs), .int (rF cs e0.1), .int (ll cs)]) (rest := [.int (nI (cbE (chI sh cs at0 num) en i))]) (nc := 0) (ns := 0) C hV (k_Mbecome l D cI cN cZ cJ f y 0 nx _ ml i e0 cs (rF cs e0.1) (ll cs) ⟨ad, ga, isR, r5, hW⟩ hj (mapI_at.trans hei)) dX3_insert_148 rfl w_468 rfl w_465 w_2 w_467 ws_24 hd_X3_become rfl hW.1.1 rfl ⟨Nat.le_of_ble_eq_true rfl, Nat.le_of_ble_eq_true rfl⟩ (Nat.le_of_ble_eq_true rfl) (by decide) (by decide) (fun v u hp => ?_)
                obtain ⟨hv, hR2⟩ := hp
                refine gj_rt (f := u) (st' := [.int (bI (decide (¬ ((rF cs e0.1) = rF cs e0.1 ∧ (ll cs) = rL cs e0.1)))), .int (nI (cbE (chI sh cs at0 num) en i))]) hv rfl rfl ?_
                refine gj_iadd C dX3_insert_151 ?_
                refine gj_istore (lw' := [some (.ref y), some (.int sh), some (.int (bI cs)), some (.int at0), some (.int num), some (.int ((nI (cbE (chI sh cs at0 num) en i)) + (bI (decide (¬ ((rF cs e0.1) = rF cs e0.1 ∧ (ll cs) = rL cs e0.1)))))), some (.int (nI i)), some (.int (rF cs e0.1)), some (.int ((rL cs e0.1) + num))]) C dX3_insert_152 (by decide) rfl rfl ?_
                refine gj_iinc (v := (nI (i + 1))) (lw' := [some (.ref y), some (.int sh), some (.int (bI cs)), some (.int at0), some (.int num), some (.int ((nI (cbE (chI sh cs at0 num) en i)) + (bI (decide (¬ ((rF cs e0.1) = rF cs e0.1 ∧ (ll cs) = rL cs e0.1)))))), some (.int (nI (i + 1))), some (.int (rF cs e0.1)), some (.int ((rL cs e0.1) + num))]) C dX3_insert_154 rfl (nI_1 i) (by decide) rfl rfl ?_
                refine gj_goto (tgt := 27) C dX3_insert_157 (by decide) ?_
                refine gj_un 7 (lw' := [some (.ref y), some (.int sh), some (.int (bI cs)), some (.int at0), some (.int num), some (.int ((nI (cbE (chI sh cs at0 num) en i)) + (bI (decide (¬ ((rF cs e0.1) = rF cs e0.1 ∧ (ll cs) = rL cs e0.1)))))), some (.int (nI (i + 1))), none, some (.int ((rL cs e0.1) + num))]) rfl ?_
                refine gj_un 8 (lw' := [some (.ref y), some (.int sh), some (.int (bI cs)), some (.int at0), some (.int num), some (.int ((nI (cbE (chI sh cs at0 num) en i)) + (bI (decide (¬ ((rF cs e0.1) = rF cs e0.1 ∧ (ll cs) = rL cs e0.1)))))), some (.int (nI (i + 1))), none, none]) rfl ?_
                have h9 := ih (i + 1) u (by omega) (by rw [mapI_s hei, phI_y (bI_p1 c1), insA_2 c3, insB_2 c6 c11]; exact hR2)
                rw [cb_step hei, chI_y (bI_p1 c1), insA_2 c3, insB_2 c6 c11] at h9
                exact h9
          · refine gj_aload_n C dX3_insert_67 rfl ?_
            refine gj_iload C dX3_insert_68 rfl ?_
            refine gj_iload_n C dX3_insert_70 rfl ?_
            refine gj_cV (As := [.int (nI i), .int (bI cs)]) (rest := []) (nc := 0) (ns := 0) C hV (k_Mfirst l D cI cN cZ cJ f y _ nx _ ml ad ga isR r5 _ i e0 cs hW hj (mapI_at.trans hei)) dX3_insert_71 rfl w_460 rfl w_457 w_2 w_459 ws_22 hd_X3_first rfl hW.1.1 rfl ⟨Nat.le_of_ble_eq_true rfl, Nat.le_of_ble_eq_true rfl⟩ (Nat.le_of_ble_eq_true rfl) (by decide) (by decide) (fun v u hp13 => ?_)
            refine gj_rt (st' := [.int (rF cs e0.1)]) hp13.1 hp13.2 rfl ?_
            refine gj_iload C dX3_insert_74 rfl ?_
            refine gj_iadd C dX3_insert_76 ?_
            refine gj_goto (tgt := 87) C dX3_insert_77 (by decide) ?_
            refine gj_istore (lw' := [some (.ref y), some (.int sh), some (.int (bI cs)), some (.int at0), some (.int num), some (.int (nI (cbE (chI sh cs at0 num) en i))), some (.int (nI i)), some (.int ((rF cs e0.1) + num)), none]) C dX3_insert_87 (by decide) rfl rfl ?_
            refine gj_aload_n C dX3_insert_89 rfl ?_
            refine gj_iload C dX3_insert_90 rfl ?_
            refine gj_iload_n C dX3_insert_92 rfl ?_
            refine gj_cV (As := [.int (nI i), .int (bI cs)]) (rest := []) (nc := 0) (ns := 0) C hV (k_Mlast l D cI cN cZ cJ f y _ nx _ ml ad ga isR r5 _ i e0 cs hW hj (mapI_at.trans hei)) dX3_insert_93 rfl w_464 rfl w_461 w_2 w_463 ws_23 hd_X3_last rfl hW.1.1 rfl ⟨Nat.le_of_ble_eq_true rfl, Nat.le_of_ble_eq_true rfl⟩ (Nat.le_of_ble_eq_true rfl) (by decide) (by decide) (fun v u hp14 => ?_)
            refine gj_rt (st' := [.int (rL cs e0.1)]) hp14.1 hp14.2 rfl ?_
            refine gj_iload_n C dX3_insert_96 rfl ?_
            refine gj_icmp_lt (tgt := 113) C dX3_insert_97 (by decide) (fun c15 => ?_) (fun c15 => ?_)
            · refine gj_aload_n C dX3_insert_113 rfl ?_
              refine gj_iload C dX3_insert_114 rfl ?_
              refine gj_iload_n C dX3_insert_116 rfl ?_
              refine gj_cV (As := [.int (nI i), .int (bI cs)]) (rest := []) (nc := 0) (ns := 0) C hV (k_Mlast l D cI cN cZ cJ f y _ nx _ ml ad ga isR r5 _ i e0 cs hW hj (mapI_at.trans hei)) dX3_insert_117 rfl w_464 rfl w_461 w_2 w_463 ws_23 hd_X3_last rfl hW.1.1 rfl ⟨Nat.le_of_ble_eq_true rfl, Nat.le_of_ble_eq_true rfl⟩ (Nat.le_of_ble_eq_true rfl) (by decide) (by decide) (fun v u hp16 => ?_)
              refine gj_rt (st' := [.int (rL cs e0.1)]) hp16.1 hp16.2 rfl ?_
              refine gj_istore (lw' := [some (.ref y), some (.int sh), some (.int (bI cs)), some (.int at0), some (.int num), some (.int (nI (cbE (chI sh cs at0 num) en i))), some (.int (nI i)), some (.int ((rF cs e0.1) + num)), some (.int (rL cs e0.1))]) C dX3_insert_120 (by decide) rfl rfl ?_
              refine gj_iload C dX3_insert_122 rfl ?_
              refine gj_aload_n C dX3_insert_124 rfl ?_
              refine gj_iload C dX3_insert_125 rfl ?_
              refine gj_iload_n C dX3_insert_127 rfl ?_
              refine gj_iload C dX3_insert_128 rfl ?_
              refine gj_iload C dX3_insert_130 rfl ?_
              refine gj_iload_n C dX3_insert_132 rfl ?_
              refine gj_cS (As := [.int (bI cs)]) (rest := [.int (rL cs e0.1), .int ((rF cs e0.1) + num), .int (bI cs), .int (nI i), .ref y, .int (nI (cbE (chI sh cs at0 num) en i))]) (nc := 0) (ns := 0) C hV (k_linesOf l D (tyl cI cN cZ cJ) f cs) dX3_insert_133 rfl w_452 rfl w_450 w_2 w_451 hd_X3_linesOf rfl ⟨Nat.le_of_ble_eq_true rfl, Nat.le_of_ble_eq_true rfl⟩ (Nat.le_of_ble_eq_true rfl) (by decide) (by decide) (fun v u hp17 => ?_)
              refine gj_rt (st' := [.int (ll cs), .int (rL cs e0.1), .int ((rF cs e0.1) + num), .int (bI cs), .int (nI i), .ref y, .int (nI (cbE (chI sh cs at0 num) en i))]) hp17.1 hp17.2 rfl ?_
              refine gj_icmp_leT (tgt := 146) C dX3_insert_136 (by decide) (vr_ll (hval i e0 hei) cs) ?_
              refine gj_iload C dX3_insert_146 rfl ?_
              refine gj_cV (As := [.int (nI i), .int (bI cs), .int ((rF cs e0.1) + num), .int (rL cs e0.1)]) (rest := [.int (nI (cbE (chI sh cs at0 num) en i))]) (nc := 0) (ns := 0) C hV (k_Mbecome l D cI cN cZ cJ f y 0 nx _ ml i e0 cs ((rF cs e0.1) + num) (rL cs e0.1) ⟨ad, ga, isR, r5, hW⟩ hj (mapI_at.trans hei)) dX3_insert_148 rfl w_468 rfl w_465 w_2 w_467 ws_24 hd_X3_become rfl hW.1.1 rfl ⟨Nat.le_of_ble_eq_true rfl, Nat.le_of_ble_eq_true rfl⟩ (Nat.le_of_ble_eq_true rfl) (by decide) (by decide) (fun v u hp => ?_)
              obtain ⟨hv, hR2⟩ := hp
              refine gj_rt (f := u) (st' := [.int (bI (decide (¬ (((rF cs e0.1) + num) = rF cs e0.1 ∧ (rL cs e0.1) = rL cs e0.1)))), .int (nI (cbE (chI sh cs at0 num) en i))]) hv rfl rfl ?_
              refine gj_iadd C dX3_insert_151 ?_
              refine gj_istore (lw' := [some (.ref y), some (.int sh), some (.int (bI cs)), some (.int at0), some (.int num), some (.int ((nI (cbE (chI sh cs at0 num) en i)) + (bI (decide (¬ (((rF cs e0.1) + num) = rF cs e0.1 ∧ (rL cs e0.1) = rL cs e0.1)))))), some (.int (nI i)), some (.int ((rF cs e0.1) + num)), some (.int (rL cs e0.1))]) C dX3_insert_152 (by decide) rfl rfl ?_
              refine gj_iinc (v := (nI (i + 1))) (lw' := [some (.ref y), some (.int sh), some (.int (bI cs)), some (.int at0), some (.int num), some (.int ((nI (cbE (chI sh cs at0 num) en i)) + (bI (decide (¬ (((rF cs e0.1) + num) = rF cs e0.1 ∧ (rL cs e0.1) = rL cs e0.1)))))), some (.int (nI (i + 1))), some (.int ((rF cs e0.1) + num)), some (.int (rL cs e0.1))]) C dX3_insert_154 rfl (nI_1 i) (by decide) rfl rfl ?_
              refine gj_goto (tgt := 27) C dX3_insert_157 (by decide) ?_
              refine gj_un 7 (lw' := [some (.ref y), some (.int sh), some (.int (bI cs)), some (.int at0), some (.int num), some (.int ((nI (cbE (chI sh cs at0 num) en i)) + (bI (decide (¬ (((rF cs e0.1) + num) = rF cs e0.1 ∧ (rL cs e0.1) = rL cs e0.1)))))), some (.int (nI (i + 1))), none, some (.int (rL cs e0.1))]) rfl ?_
              refine gj_un 8 (lw' := [some (.ref y), some (.int sh), some (.int (bI cs)), some (.int at0), some (.int num), some (.int ((nI (cbE (chI sh cs at0 num) en i)) + (bI (decide (¬ (((rF cs e0.1) + num) = rF cs e0.1 ∧ (rL cs e0.1) = rL cs e0.1)))))), some (.int (nI (i + 1))), none, none]) rfl ?_
              have h9 := ih (i + 1) u (by omega) (by rw [mapI_s hei, phI_y (bI_p1 c1), insA_1 c3, insB_3 c15]; exact hR2)
              rw [cb_step hei, chI_y (bI_p1 c1), insA_1 c3, insB_3 c15] at h9
              exact h9
            · refine gj_aload_n C dX3_insert_100 rfl ?_
              refine gj_iload C dX3_insert_101 rfl ?_
              refine gj_iload_n C dX3_insert_103 rfl ?_
              refine gj_cV (As := [.int (nI i), .int (bI cs)]) (rest := []) (nc := 0) (ns := 0) C hV (k_Mlast l D cI cN cZ cJ f y _ nx _ ml ad ga isR r5 _ i e0 cs hW hj (mapI_at.trans hei)) dX3_insert_104 rfl w_464 rfl w_461 w_2 w_463 ws_23 hd_X3_last rfl hW.1.1 rfl ⟨Nat.le_of_ble_eq_true rfl, Nat.le_of_ble_eq_true rfl⟩ (Nat.le_of_ble_eq_true rfl) (by decide) (by decide) (fun v u hp18 => ?_)
              refine gj_rt (st' := [.int (rL cs e0.1)]) hp18.1 hp18.2 rfl ?_
              refine gj_iload C dX3_insert_107 rfl ?_
              refine gj_iadd C dX3_insert_109 ?_
              refine gj_goto (tgt := 120) C dX3_insert_110 (by decide) ?_
              refine gj_istore (lw' := [some (.ref y), some (.int sh), some (.int (bI cs)), some (.int at0), some (.int num), some (.int (nI (cbE (chI sh cs at0 num) en i))), some (.int (nI i)), some (.int ((rF cs e0.1) + num)), some (.int ((rL cs e0.1) + num))]) C dX3_insert_120 (by decide) rfl rfl ?_
              refine gj_iload C dX3_insert_122 rfl ?_
              refine gj_aload_n C dX3_insert_124 rfl ?_
              refine gj_iload C dX3_insert_125 rfl ?_
              refine gj_iload_n C dX3_insert_127 rfl ?_
              refine gj_iload C dX3_insert_128 rfl ?_
              refine gj_iload C dX3_insert_130 rfl ?_
              refine gj_iload_n C dX3_insert_132 rfl ?_
              refine gj_cS (As := [.int (bI cs)]) (rest := [.int ((rL cs e0.1) + num), .int ((rF cs e0.1) + num), .int (bI cs), .int (nI i), .ref y, .int (nI (cbE (chI sh cs at0 num) en i))]) (nc := 0) (ns := 0) C hV (k_linesOf l D (tyl cI cN cZ cJ) f cs) dX3_insert_133 rfl w_452 rfl w_450 w_2 w_451 hd_X3_linesOf rfl ⟨Nat.le_of_ble_eq_true rfl, Nat.le_of_ble_eq_true rfl⟩ (Nat.le_of_ble_eq_true rfl) (by decide) (by decide) (fun v u hp19 => ?_)
              refine gj_rt (st' := [.int (ll cs), .int ((rL cs e0.1) + num), .int ((rF cs e0.1) + num), .int (bI cs), .int (nI i), .ref y, .int (nI (cbE (chI sh cs at0 num) en i))]) hp19.1 hp19.2 rfl ?_
              refine gj_icmp_le (tgt := 146) C dX3_insert_136 (by decide) (fun c20 => ?_) (fun c20 => ?_)
              · refine gj_iload C dX3_insert_146 rfl ?_
                refine gj_cV (As := [.int (nI i), .int (bI cs), .int ((rF cs e0.1) + num), .int ((rL cs e0.1) + num)]) (rest := [.int (nI (cbE (chI sh cs at0 num) en i))]) (nc := 0) (ns := 0) C hV (k_Mbecome l D cI cN cZ cJ f y 0 nx _ ml i e0 cs ((rF cs e0.1) + num) ((rL cs e0.1) + num) ⟨ad, ga, isR, r5, hW⟩ hj (mapI_at.trans hei)) dX3_insert_148 rfl w_468 rfl w_465 w_2 w_467 ws_24 hd_X3_become rfl hW.1.1 rfl ⟨Nat.le_of_ble_eq_true rfl, Nat.le_of_ble_eq_true rfl⟩ (Nat.le_of_ble_eq_true rfl) (by decide) (by decide) (fun v u hp => ?_)
                obtain ⟨hv, hR2⟩ := hp
                refine gj_rt (f := u) (st' := [.int (bI (decide (¬ (((rF cs e0.1) + num) = rF cs e0.1 ∧ ((rL cs e0.1) + num) = rL cs e0.1)))), .int (nI (cbE (chI sh cs at0 num) en i))]) hv rfl rfl ?_
                refine gj_iadd C dX3_insert_151 ?_
                refine gj_istore (lw' := [some (.ref y), some (.int sh), some (.int (bI cs)), some (.int at0), some (.int num), some (.int ((nI (cbE (chI sh cs at0 num) en i)) + (bI (decide (¬ (((rF cs e0.1) + num) = rF cs e0.1 ∧ ((rL cs e0.1) + num) = rL cs e0.1)))))), some (.int (nI i)), some (.int ((rF cs e0.1) + num)), some (.int ((rL cs e0.1) + num))]) C dX3_insert_152 (by decide) rfl rfl ?_
                refine gj_iinc (v := (nI (i + 1))) (lw' := [some (.ref y), some (.int sh), some (.int (bI cs)), some (.int at0), some (.int num), some (.int ((nI (cbE (chI sh cs at0 num) en i)) + (bI (decide (¬ (((rF cs e0.1) + num) = rF cs e0.1 ∧ ((rL cs e0.1) + num) = rL cs e0.1)))))), some (.int (nI (i + 1))), some (.int ((rF cs e0.1) + num)), some (.int ((rL cs e0.1) + num))]) C dX3_insert_154 rfl (nI_1 i) (by decide) rfl rfl ?_
                refine gj_goto (tgt := 27) C dX3_insert_157 (by decide) ?_
                refine gj_un 7 (lw' := [some (.ref y), some (.int sh), some (.int (bI cs)), some (.int at0), some (.int num), some (.int ((nI (cbE (chI sh cs at0 num) en i)) + (bI (decide (¬ (((rF cs e0.1) + num) = rF cs e0.1 ∧ ((rL cs e0.1) + num) = rL cs e0.1)))))), some (.int (nI (i + 1))), none, some (.int ((rL cs e0.1) + num))]) rfl ?_
                refine gj_un 8 (lw' := [some (.ref y), some (.int sh), some (.int (bI cs)), some (.int at0), some (.int num), some (.int ((nI (cbE (chI sh cs at0 num) en i)) + (bI (decide (¬ (((rF cs e0.1) + num) = rF cs e0.1 ∧ ((rL cs e0.1) + num) = rL cs e0.1)))))), some (.int (nI (i + 1))), none, none]) rfl ?_
                have h9 := ih (i + 1) u (by omega) (by rw [mapI_s hei, phI_y (bI_p1 c1), insA_1 c3, insB_1 c15 c20]; exact hR2)
                rw [cb_step hei, chI_y (bI_p1 c1), insA_1 c3, insB_1 c15 c20] at h9
                exact h9
              · refine gj_iload_n C dX3_insert_139 rfl ?_
                refine gj_cS (As := [.int (bI cs)]) (rest := [.int ((rF cs e0.1) + num), .int (bI cs), .int (nI i), .ref y, .int (nI (cbE (chI sh cs at0 num) en i))]) (nc := 0) (ns := 0) C hV (k_linesOf l D (tyl cI cN cZ cJ) f cs) dX3_insert_140 rfl w_452 rfl w_450 w_2 w_451 hd_X3_linesOf rfl ⟨Nat.le_of_ble_eq_true rfl, Nat.le_of_ble_eq_true rfl⟩ (Nat.le_of_ble_eq_true rfl) (by decide) (by decide) (fun v u hp21 => ?_)
                refine gj_rt (st' := [.int (ll cs), .int ((rF cs e0.1) + num), .int (bI cs), .int (nI i), .ref y, .int (nI (cbE (chI sh cs at0 num) en i))]) hp21.1 hp21.2 rfl ?_
                refine gj_goto (tgt := 148) C dX3_insert_143 (by decide) ?_
                refine gj_cV (As := [.int (nI i), .int (bI cs), .int ((rF cs e0.1) + num), .int (ll cs)]) (rest := [.int (nI (cbE (chI sh cs at0 num) en i))]) (nc := 0) (ns := 0) C hV (k_Mbecome l D cI cN cZ cJ f y 0 nx _ ml i e0 cs ((rF cs e0.1) + num) (ll cs) ⟨ad, ga, isR, r5, hW⟩ hj (mapI_at.trans hei)) dX3_insert_148 rfl w_468 rfl w_465 w_2 w_467 ws_24 hd_X3_become rfl hW.1.1 rfl ⟨Nat.le_of_ble_eq_true rfl, Nat.le_of_ble_eq_true rfl⟩ (Nat.le_of_ble_eq_true rfl) (by decide) (by decide) (fun v u hp => ?_)
                obtain ⟨hv, hR2⟩ := hp
                refine gj_rt (f := u) (st' := [.int (bI (decide (¬ (((rF cs e0.1) + num) = rF cs e0.1 ∧ (ll cs) = rL cs e0.1)))), .int (nI (cbE (chI sh cs at0 num) en i))]) hv rfl rfl ?_
                refine gj_iadd C dX3_insert_151 ?_
                refine gj_istore (lw' := [some (.ref y), some (.int sh), some (.int (bI cs)), some (.int at0), some (.int num), some (.int ((nI (cbE (chI sh cs at0 num) en i)) + (bI (decide (¬ (((rF cs e0.1) + num) = rF cs e0.1 ∧ (ll cs) = rL cs e0.1)))))), some (.int (nI i)), some (.int ((rF cs e0.1) + num)), some (.int ((rL cs e0.1) + num))]) C dX3_insert_152 (by decide) rfl rfl ?_
                refine gj_iinc (v := (nI (i + 1))) (lw' := [some (.ref y), some (.int sh), some (.int (bI cs)), some (.int at0), some (.int num), some (.int ((nI (cbE (chI sh cs at0 num) en i)) + (bI (decide (¬ (((rF cs e0.1) + num) = rF cs e0.1 ∧ (ll cs) = rL cs e0.1)))))), some (.int (nI (i + 1))), some (.int ((rF cs e0.1) + num)), some (.int ((rL cs e0.1) + num))]) C dX3_insert_154 rfl (nI_1 i) (by decide) rfl rfl ?_
                refine gj_goto (tgt := 27) C dX3_insert_157 (by decide) ?_
                refine gj_un 7 (lw' := [some (.ref y), some (.int sh), some (.int (bI cs)), some (.int at0), some (.int num), some (.int ((nI (cbE (chI sh cs at0 num) en i)) + (bI (decide (¬ (((rF cs e0.1) + num) = rF cs e0.1 ∧ (ll cs) = rL cs e0.1)))))), some (.int (nI (i + 1))), none, some (.int ((rL cs e0.1) + num))]) rfl ?_
                refine gj_un 8 (lw' := [some (.ref y), some (.int sh), some (.int (bI cs)), some (.int at0), some (.int num), some (.int ((nI (cbE (chI sh cs at0 num) en i)) + (bI (decide (¬ (((rF cs e0.1) + num) = rF cs e0.1 ∧ (ll cs) = rL cs e0.1)))))), some (.int (nI (i + 1))), none, none]) rfl ?_
                have h9 := ih (i + 1) u (by omega) (by rw [mapI_s hei, phI_y (bI_p1 c1), insA_1 c3, insB_2 c15 c20]; exact hR2)
                rw [cb_step hei, chI_y (bI_p1 c1), insA_1 c3, insB_2 c15 c20] at h9
                exact h9
        · refine gj_goto (tgt := 154) C dX3_insert_53 (by decide) ?_
          refine gj_iinc (v := (nI (i + 1))) (lw' := [some (.ref y), some (.int sh), some (.int (bI cs)), some (.int at0), some (.int num), some (.int (nI (cbE (chI sh cs at0 num) en i))), some (.int (nI (i + 1))), none, none]) C dX3_insert_154 rfl (nI_1 i) (by decide) rfl rfl ?_
          refine gj_goto (tgt := 27) C dX3_insert_157 (by decide) ?_
          have h9 := ih (i + 1) f (by omega) (by rw [mapI_k hei (phI_n (bI_p0 c1))]; exact ⟨ad, ga, isR, r5, hW⟩)
          rw [cb_f hei (chI_n (bI_p0 c1))] at h9
          exact h9
  obtain ⟨ad, ga, isR, r5, hW⟩ := hR
  refine gj_aload_n C dX3_insert_0 rfl ?_
  refine gj_aload_n C dX3_insert_1 rfl ?_
  refine gj_iload_n C dX3_insert_2 rfl ?_
  refine gj_iload_n C dX3_insert_3 rfl ?_
  refine gj_iload_n C dX3_insert_4 rfl ?_
  refine gj_iload C dX3_insert_5 rfl ?_
  refine gj_cV (As := [.int sh, .int (bI cs), .int at0, .int num]) (rest := [.ref y]) (nc := 0) (ns := 0) C hV (k_MisLine l D cI cN cZ cJ f y sh cs at0 num) dX3_insert_7 rfl w_449 rfl w_446 w_2 w_448 ws_20 hd_X3_isLine rfl hW.1.1 rfl ⟨Nat.le_of_ble_eq_true rfl, Nat.le_of_ble_eq_true rfl⟩ (Nat.le_of_ble_eq_true rfl) (by decide) (by decide) (fun v u hp22 => ?_)
  refine gj_rt (st' := [.int (bI (decide (vn sh cs at0 num))), .ref y]) hp22.1 hp22.2 rfl ?_
  refine gj_if_eq (tgt := 17) C dX3_insert_10 (by decide) (fun c23 => ?_) (fun c23 => ?_)
  · refine gj_iconst (v := 1) C dX3_insert_17 (by decide) ?_
    refine gj_put C dX3_insert_18 hW.1.1 rfl inX3 tyX3_ok nmX3 0 (by decide) w_329 rfl rfl rfl (Nat.le_of_ble_eq_true rfl) ?_
    refine gj_f (f' := gm_up f y (cMo 1 ad (nI (cn en 4096)) isR r5 (nI ml.length))) rfl ?_
    have hW := rpm_cd hW 1 (nI (cn en 4096))
    generalize gm_up f y (cMo 1 ad (nI (cn en 4096)) isR r5 (nI ml.length)) = f at hW ⊢
    refine gj_iconst (v := 0) C dX3_insert_21 (by decide) ?_
    refine gj_istore (lw' := [some (.ref y), some (.int sh), some (.int (bI cs)), some (.int at0), some (.int num), some (.int 0), none, none, none]) C dX3_insert_22 (by decide) rfl rfl ?_
    refine gj_iconst (v := 0) C dX3_insert_24 (by decide) ?_
    refine gj_istore (lw' := [some (.ref y), some (.int sh), some (.int (bI cs)), some (.int at0), some (.int num), some (.int 0), some (.int 0), none, none]) C dX3_insert_25 (by decide) rfl rfl ?_
    refine gj_iload C dX3_insert_27 rfl ?_
    refine gj_sipush (v := 4096) C dX3_insert_29 (by decide) ?_
    refine gj_icmp_geF (tgt := 160) C dX3_insert_32 (by decide) (by decide) ?_
    refine gj_aload_n C dX3_insert_35 rfl ?_
    refine gj_get C dX3_insert_36 hW.1.1 rfl inX3 0 (by decide) w_329 rfl ?_
    refine gj_if_neT (tgt := 160) C dX3_insert_39 (by decide) (by decide) ?_
    refine gj_iload C dX3_insert_160 rfl ?_
    exact gj_iret C hr hlk dX3_insert_162 (⟨_, rfl, Or.inr ⟨bI_p0 c23, ⟨ad, ga, isR, r5, hW⟩⟩⟩)
  · refine gj_iconst (v := 0) C dX3_insert_13 (by decide) ?_
    refine gj_goto (tgt := 18) C dX3_insert_14 (by decide) ?_
    refine gj_put C dX3_insert_18 hW.1.1 rfl inX3 tyX3_ok nmX3 0 (by decide) w_329 rfl rfl rfl (Nat.le_of_ble_eq_true rfl) ?_
    refine gj_f (f' := gm_up f y (cMo 0 ad (nI (cn en 4096)) isR r5 (nI ml.length))) rfl ?_
    have hW := rpm_cd hW 0 (nI (cn en 4096))
    generalize gm_up f y (cMo 0 ad (nI (cn en 4096)) isR r5 (nI ml.length)) = f at hW ⊢
    refine gj_iconst (v := 0) C dX3_insert_21 (by decide) ?_
    refine gj_istore (lw' := [some (.ref y), some (.int sh), some (.int (bI cs)), some (.int at0), some (.int num), some (.int 0), none, none, none]) C dX3_insert_22 (by decide) rfl rfl ?_
    refine gj_iconst (v := 0) C dX3_insert_24 (by decide) ?_
    refine gj_istore (lw' := [some (.ref y), some (.int sh), some (.int (bI cs)), some (.int at0), some (.int num), some (.int 0), some (.int 0), none, none]) C dX3_insert_25 (by decide) rfl rfl ?_
    exact loop (bI_p1 c23) 4096 0 f (by omega) (by rw [mapI_0]; exact ⟨ad, ga, isR, r5, hW⟩)
set_option maxRecDepth 100000 in
set_option maxHeartbeats 4000000 in
theorem k_Mdelete (l : Launch) (D : va_G) (cI cN cZ cJ : ClassId) (f : gm) (y : Nat) (cd : Int32) (nx : Option Rc) (en : Nat → Option En) (ml : List Nat) (sh : Int32) (cs : Bool) (at0 num : Int32) (hR : RpM cI cZ f y cd nx en ml) (hval : ∀ j e, en j = some e → vr e.1) : gk l yX3_delete (.code yX3_delete cX3_delete 10 (Option.some Jvm.ClassFile.FieldType.int)) (rmk 2 0 0) D (tyl cI cN cZ cJ) [.ref y, .int sh, .int (bI cs), .int at0, .int num] f (fun v u => ∃ b, v = some (.int b) ∧ ((vn sh cs at0 num ∧ b = nI (cbE (chX sh cs at0 num) en 4096) ∧ RpM cI cZ u y 0 nx (mapE (phX sh cs at0 num) en) ml) ∨ (¬ vn sh cs at0 num ∧ RpM cI cZ u y 1 nx en ml))) := by
  refine gk_of [some (.ref y), some (.int sh), some (.int (bI cs)), some (.int at0), some (.int num), none, none, none, none, none] (by decide) rfl (Nat.le_of_ble_eq_true rfl) rfl ?_
  intro p e s m args below meth c A C hV hr hlk hnm
  have hd : ∀ j, 4096 ≤ j → en j = none := hR.hd
  have loop : vn sh cs at0 num → ∀ (d i : Nat) (f : gm), i + d = 4096 → RpM cI cZ f y 0 nx (mapI (phX sh cs at0 num) en i) ml → gj p l e (rmk 2 0 0) s m args below meth c D vwCl A 10 (MQ below (gk_Q (fun v u => ∃ b, v = some (.int b) ∧ ((vn sh cs at0 num ∧ b = nI (cbE (chX sh cs at0 num) en 4096) ∧ RpM cI cZ u y 0 nx (mapE (phX sh cs at0 num) en) ml) ∨ (¬ vn sh cs at0 num ∧ RpM cI cZ u y 1 nx en ml))) D A) args s (rmk 2 0 0).cells (rmk 2 0 0).slots A) f 0 0 33 [some (.ref y), some (.int sh), some (.int (bI cs)), some (.int at0), some (.int num), some (.int (at0 + num)), some (.int (nI (cbE (chX sh cs at0 num) en i))), some (.int (nI i)), none, none] [] := by
    intro hok d
    induction d with
    | zero =>
      intro i f hid hR
      rw [show mapI (phX sh cs at0 num) en i = mapI (phX sh cs at0 num) en 4096 by rw [show i = 4096 by omega]] at hR
      obtain ⟨ad, ga, isR, r5, hW⟩ := hR
      refine gj_iload C dX3_delete_33 rfl ?_
      refine gj_sipush (v := 4096) C dX3_delete_35 (by decide) ?_
      refine gj_icmp_geT (tgt := 162) C dX3_delete_38 (by decide) (by rw [show i = 4096 by omega]; decide) ?_
      refine gj_iload C dX3_delete_162 rfl ?_
      exact gj_iret C hr hlk dX3_delete_164 (⟨_, rfl, Or.inl ⟨hok, by rw [show i = 4096 by omega], by rw [← mapI_end (φ := (phX sh cs at0 num)) hd]; exact ⟨ad, ga, isR, r5, hW⟩⟩⟩)
    | succ d ih =>
      intro i f hid hR
      have hj : i < 4096 := by omega
      obtain ⟨ad, ga, isR, r5, hW⟩ := hR
      cases hei : en i with
      | none =>
        have g0 := rpm_no hW hj (mapI_at.trans hei)
        refine gj_iload C dX3_delete_33 rfl ?_
        refine gj_sipush (v := 4096) C dX3_delete_35 (by decide) ?_
        refine gj_icmp_geF (tgt := 162) C dX3_delete_38 (by decide) (nI_ge hj (by decide)) ?_
        refine gj_aload_n C dX3_delete_41 rfl ?_
        refine gj_get C dX3_delete_42 hW.1.1 rfl inX3 0 (by decide) w_329 rfl ?_
        refine gj_if_neF (tgt := 162) C dX3_delete_45 (by decide) rfl ?_
        refine gj_aload_n C dX3_delete_48 rfl ?_
        refine gj_iload C dX3_delete_49 rfl ?_
        refine gj_iload_n C dX3_delete_51 rfl ?_
        refine gj_iload_n C dX3_delete_52 rfl ?_
        refine gj_cV (As := [.int (nI i), .int sh, .int (bI cs)]) (rest := []) (nc := 0) (ns := 0) C hV (k_MisPart l D cI cN cZ cJ f y _ nx _ ml ad ga isR r5 _ i sh cs hW hj) dX3_delete_53 rfl w_456 rfl w_453 w_2 w_455 ws_21 hd_X3_isPart rfl hW.1.1 rfl ⟨Nat.le_of_ble_eq_true rfl, Nat.le_of_ble_eq_true rfl⟩ (Nat.le_of_ble_eq_true rfl) (by decide) (by decide) (fun v u hp => ?_)
        refine gj_rt (st' := [.int (bI (ptb _ sh cs i))]) hp.1 hp.2 rfl ?_
        refine gj_st (st' := [.int 0]) (by rw [ptb_n (mapI_at.trans hei)] <;> rfl) ?_
        refine gj_if_neF (tgt := 62) C dX3_delete_56 (by decide) rfl ?_
        refine gj_goto (tgt := 156) C dX3_delete_59 (by decide) ?_
        refine gj_iinc (v := (nI (i + 1))) (lw' := [some (.ref y), some (.int sh), some (.int (bI cs)), some (.int at0), some (.int num), some (.int (at0 + num)), some (.int (nI (cbE (chX sh cs at0 num) en i))), some (.int (nI (i + 1))), none, none]) C dX3_delete_156 rfl (nI_1 i) (by decide) rfl rfl ?_
        refine gj_goto (tgt := 33) C dX3_delete_159 (by decide) ?_
        have h9 := ih (i + 1) f (by omega) (by rw [mapI_n hei]; exact ⟨ad, ga, isR, r5, hW⟩)
        rw [cb_n hei] at h9
        exact h9
      | some e0 =>
        obtain ⟨g0, g1, g2, g3, g4, g5, g6⟩ := rpm_at hW hj (mapI_at.trans hei)
        refine gj_iload C dX3_delete_33 rfl ?_
        refine gj_sipush (v := 4096) C dX3_delete_35 (by decide) ?_
        refine gj_icmp_geF (tgt := 162) C dX3_delete_38 (by decide) (nI_ge hj (by decide)) ?_
        refine gj_aload_n C dX3_delete_41 rfl ?_
        refine gj_get C dX3_delete_42 hW.1.1 rfl inX3 0 (by decide) w_329 rfl ?_
        refine gj_if_neF (tgt := 162) C dX3_delete_45 (by decide) rfl ?_
        refine gj_aload_n C dX3_delete_48 rfl ?_
        refine gj_iload C dX3_delete_49 rfl ?_
        refine gj_iload_n C dX3_delete_51 rfl ?_
        refine gj_iload_n C dX3_delete_52 rfl ?_
        refine gj_cV (As := [.int (nI i), .int sh, .int (bI cs)]) (rest := []) (nc := 0) (ns := 0) C hV (k_MisPart l D cI cN cZ cJ f y _ nx _ ml ad ga isR r5 _ i sh cs hW hj) dX3_delete_53 rfl w_456 rfl w_453 w_2 w_455 ws_21 hd_X3_isPart rfl hW.1.1 rfl ⟨Nat.le_of_ble_eq_true rfl, Nat.le_of_ble_eq_true rfl⟩ (Nat.le_of_ble_eq_true rfl) (by decide) (by decide) (fun v u hp => ?_)
        refine gj_rt (st' := [.int (bI (ptb _ sh cs i))]) hp.1 hp.2 rfl ?_
        refine gj_st (st' := [.int (bI (decide (rY sh cs e0.1)))]) (by rw [ptb_s (mapI_at.trans hei)]) ?_
        refine gj_if_ne (tgt := 62) C dX3_delete_56 (by decide) (fun c1 => ?_) (fun c1 => ?_)
        · refine gj_aload_n C dX3_delete_62 rfl ?_
          refine gj_iload C dX3_delete_63 rfl ?_
          refine gj_iload_n C dX3_delete_65 rfl ?_
          refine gj_cV (As := [.int (nI i), .int (bI cs)]) (rest := []) (nc := 0) (ns := 0) C hV (k_Mfirst l D cI cN cZ cJ f y _ nx _ ml ad ga isR r5 _ i e0 cs hW hj (mapI_at.trans hei)) dX3_delete_66 rfl w_460 rfl w_457 w_2 w_459 ws_22 hd_X3_first rfl hW.1.1 rfl ⟨Nat.le_of_ble_eq_true rfl, Nat.le_of_ble_eq_true rfl⟩ (Nat.le_of_ble_eq_true rfl) (by decide) (by decide) (fun v u hp2 => ?_)
          refine gj_rt (st' := [.int (rF cs e0.1)]) hp2.1 hp2.2 rfl ?_
          refine gj_istore (lw' := [some (.ref y), some (.int sh), some (.int (bI cs)), some (.int at0), some (.int num), some (.int (at0 + num)), some (.int (nI (cbE (chX sh cs at0 num) en i))), some (.int (nI i)), some (.int (rF cs e0.1)), none]) C dX3_delete_69 (by decide) rfl rfl ?_
          refine gj_aload_n C dX3_delete_71 rfl ?_
          refine gj_iload C dX3_delete_72 rfl ?_
          refine gj_iload_n C dX3_delete_74 rfl ?_
          refine gj_cV (As := [.int (nI i), .int (bI cs)]) (rest := []) (nc := 0) (ns := 0) C hV (k_Mlast l D cI cN cZ cJ f y _ nx _ ml ad ga isR r5 _ i e0 cs hW hj (mapI_at.trans hei)) dX3_delete_75 rfl w_464 rfl w_461 w_2 w_463 ws_23 hd_X3_last rfl hW.1.1 rfl ⟨Nat.le_of_ble_eq_true rfl, Nat.le_of_ble_eq_true rfl⟩ (Nat.le_of_ble_eq_true rfl) (by decide) (by decide) (fun v u hp3 => ?_)
          refine gj_rt (st' := [.int (rL cs e0.1)]) hp3.1 hp3.2 rfl ?_
          refine gj_istore (lw' := [some (.ref y), some (.int sh), some (.int (bI cs)), some (.int at0), some (.int num), some (.int (at0 + num)), some (.int (nI (cbE (chX sh cs at0 num) en i))), some (.int (nI i)), some (.int (rF cs e0.1)), some (.int (rL cs e0.1))]) C dX3_delete_78 (by decide) rfl rfl ?_
          refine gj_iload C dX3_delete_80 rfl ?_
          refine gj_iload_n C dX3_delete_82 rfl ?_
          refine gj_icmp_ge (tgt := 91) C dX3_delete_83 (by decide) (fun c4 => ?_) (fun c4 => ?_)
          · refine gj_iload C dX3_delete_91 rfl ?_
            refine gj_iload C dX3_delete_93 rfl ?_
            refine gj_icmp_ge (tgt := 102) C dX3_delete_95 (by decide) (fun c5 => ?_) (fun c5 => ?_)
            · refine gj_iload C dX3_delete_102 rfl ?_
              refine gj_iload C dX3_delete_104 rfl ?_
              refine gj_isub C dX3_delete_106 ?_
              refine gj_istore (lw' := [some (.ref y), some (.int sh), some (.int (bI cs)), some (.int at0), some (.int num), some (.int (at0 + num)), some (.int (nI (cbE (chX sh cs at0 num) en i))), some (.int (nI i)), some (.int ((rF cs e0.1) - num)), some (.int (rL cs e0.1))]) C dX3_delete_107 (by decide) rfl rfl ?_
              refine gj_iload C dX3_delete_109 rfl ?_
              refine gj_iload_n C dX3_delete_111 rfl ?_
              refine gj_icmp_ge (tgt := 120) C dX3_delete_112 (by decide) (fun c6 => ?_) (fun c6 => ?_)
              · refine gj_iload C dX3_delete_120 rfl ?_
                refine gj_iload C dX3_delete_122 rfl ?_
                refine gj_icmp_ge (tgt := 133) C dX3_delete_124 (by decide) (fun c7 => ?_) (fun c7 => ?_)
                · refine gj_iload C dX3_delete_133 rfl ?_
                  refine gj_iload C dX3_delete_135 rfl ?_
                  refine gj_isub C dX3_delete_137 ?_
                  refine gj_istore (lw' := [some (.ref y), some (.int sh), some (.int (bI cs)), some (.int at0), some (.int num), some (.int (at0 + num)), some (.int (nI (cbE (chX sh cs at0 num) en i))), some (.int (nI i)), some (.int ((rF cs e0.1) - num)), some (.int ((rL cs e0.1) - num))]) C dX3_delete_138 (by decide) rfl rfl ?_
                  refine gj_iload C dX3_delete_140 rfl ?_
                  refine gj_aload_n C dX3_delete_142 rfl ?_
                  refine gj_iload C dX3_delete_143 rfl ?_
                  refine gj_iload_n C dX3_delete_145 rfl ?_
                  refine gj_iload C dX3_delete_146 rfl ?_
                  refine gj_iload C dX3_delete_148 rfl ?_
                  refine gj_cV (As := [.int (nI i), .int (bI cs), .int ((rF cs e0.1) - num), .int ((rL cs e0.1) - num)]) (rest := [.int (nI (cbE (chX sh cs at0 num) en i))]) (nc := 0) (ns := 0) C hV (k_Mbecome l D cI cN cZ cJ f y 0 nx _ ml i e0 cs ((rF cs e0.1) - num) ((rL cs e0.1) - num) ⟨ad, ga, isR, r5, hW⟩ hj (mapI_at.trans hei)) dX3_delete_150 rfl w_468 rfl w_465 w_2 w_467 ws_24 hd_X3_become rfl hW.1.1 rfl ⟨Nat.le_of_ble_eq_true rfl, Nat.le_of_ble_eq_true rfl⟩ (Nat.le_of_ble_eq_true rfl) (by decide) (by decide) (fun v u hp => ?_)
                  obtain ⟨hv, hR2⟩ := hp
                  refine gj_rt (f := u) (st' := [.int (bI (decide (¬ (((rF cs e0.1) - num) = rF cs e0.1 ∧ ((rL cs e0.1) - num) = rL cs e0.1)))), .int (nI (cbE (chX sh cs at0 num) en i))]) hv rfl rfl ?_
                  refine gj_iadd C dX3_delete_153 ?_
                  refine gj_istore (lw' := [some (.ref y), some (.int sh), some (.int (bI cs)), some (.int at0), some (.int num), some (.int (at0 + num)), some (.int ((nI (cbE (chX sh cs at0 num) en i)) + (bI (decide (¬ (((rF cs e0.1) - num) = rF cs e0.1 ∧ ((rL cs e0.1) - num) = rL cs e0.1)))))), some (.int (nI i)), some (.int ((rF cs e0.1) - num)), some (.int ((rL cs e0.1) - num))]) C dX3_delete_154 (by decide) rfl rfl ?_
                  refine gj_iinc (v := (nI (i + 1))) (lw' := [some (.ref y), some (.int sh), some (.int (bI cs)), some (.int at0), some (.int num), some (.int (at0 + num)), some (.int ((nI (cbE (chX sh cs at0 num) en i)) + (bI (decide (¬ (((rF cs e0.1) - num) = rF cs e0.1 ∧ ((rL cs e0.1) - num) = rL cs e0.1)))))), some (.int (nI (i + 1))), some (.int ((rF cs e0.1) - num)), some (.int ((rL cs e0.1) - num))]) C dX3_delete_156 rfl (nI_1 i) (by decide) rfl rfl ?_
                  refine gj_goto (tgt := 33) C dX3_delete_159 (by decide) ?_
                  refine gj_un 8 (lw' := [some (.ref y), some (.int sh), some (.int (bI cs)), some (.int at0), some (.int num), some (.int (at0 + num)), some (.int ((nI (cbE (chX sh cs at0 num) en i)) + (bI (decide (¬ (((rF cs e0.1) - num) = rF cs e0.1 ∧ ((rL cs e0.1) - num) = rL cs e0.1)))))), some (.int (nI (i + 1))), none, some (.int ((rL cs e0.1) - num))]) rfl ?_
                  refine gj_un 9 (lw' := [some (.ref y), some (.int sh), some (.int (bI cs)), some (.int at0), some (.int num), some (.int (at0 + num)), some (.int ((nI (cbE (chX sh cs at0 num) en i)) + (bI (decide (¬ (((rF cs e0.1) - num) = rF cs e0.1 ∧ ((rL cs e0.1) - num) = rL cs e0.1)))))), some (.int (nI (i + 1))), none, none]) rfl ?_
                  have h9 := ih (i + 1) u (by omega) (by rw [mapI_s hei, phX_y (bI_p1 c1), delA_1 hok (vr_F (hval i e0 hei) cs) c4 c5, delB_1 hok (vr_L (hval i e0 hei) cs) c6 c7]; exact hR2)
                  rw [cb_step hei, chX_y (bI_p1 c1), delA_1 hok (vr_F (hval i e0 hei) cs) c4 c5, delB_1 hok (vr_L (hval i e0 hei) cs) c6 c7] at h9
                  exact h9
                · refine gj_iload_n C dX3_delete_127 rfl ?_
                  refine gj_iconst (v := 1) C dX3_delete_128 (by decide) ?_
                  refine gj_isub C dX3_delete_129 ?_
                  refine gj_goto (tgt := 138) C dX3_delete_130 (by decide) ?_
                  refine gj_istore (lw' := [some (.ref y), some (.int sh), some (.int (bI cs)), some (.int at0), some (.int num), some (.int (at0 + num)), some (.int (nI (cbE (chX sh cs at0 num) en i))), some (.int (nI i)), some (.int ((rF cs e0.1) - num)), some (.int (at0 - 1))]) C dX3_delete_138 (by decide) rfl rfl ?_
                  refine gj_iload C dX3_delete_140 rfl ?_
                  refine gj_aload_n C dX3_delete_142 rfl ?_
                  refine gj_iload C dX3_delete_143 rfl ?_
                  refine gj_iload_n C dX3_delete_145 rfl ?_
                  refine gj_iload C dX3_delete_146 rfl ?_
                  refine gj_iload C dX3_delete_148 rfl ?_
                  refine gj_cV (As := [.int (nI i), .int (bI cs), .int ((rF cs e0.1) - num), .int (at0 - 1)]) (rest := [.int (nI (cbE (chX sh cs at0 num) en i))]) (nc := 0) (ns := 0) C hV (k_Mbecome l D cI cN cZ cJ f y 0 nx _ ml i e0 cs ((rF cs e0.1) - num) (at0 - 1) ⟨ad, ga, isR, r5, hW⟩ hj (mapI_at.trans hei)) dX3_delete_150 rfl w_468 rfl w_465 w_2 w_467 ws_24 hd_X3_become rfl hW.1.1 rfl ⟨Nat.le_of_ble_eq_true rfl, Nat.le_of_ble_eq_true rfl⟩ (Nat.le_of_ble_eq_true rfl) (by decide) (by decide) (fun v u hp => ?_)
                  obtain ⟨hv, hR2⟩ := hp
                  refine gj_rt (f := u) (st' := [.int (bI (decide (¬ (((rF cs e0.1) - num) = rF cs e0.1 ∧ (at0 - 1) = rL cs e0.1)))), .int (nI (cbE (chX sh cs at0 num) en i))]) hv rfl rfl ?_
                  refine gj_iadd C dX3_delete_153 ?_
                  refine gj_istore (lw' := [some (.ref y), some (.int sh), some (.int (bI cs)), some (.int at0), some (.int num), some (.int (at0 + num)), some (.int ((nI (cbE (chX sh cs at0 num) en i)) + (bI (decide (¬ (((rF cs e0.1) - num) = rF cs e0.1 ∧ (at0 - 1) = rL cs e0.1)))))), some (.int (nI i)), some (.int ((rF cs e0.1) - num)), some (.int (at0 - 1))]) C dX3_delete_154 (by decide) rfl rfl ?_
                  refine gj_iinc (v := (nI (i + 1))) (lw' := [some (.ref y), some (.int sh), some (.int (bI cs)), some (.int at0), some (.int num), some (.int (at0 + num)), some (.int ((nI (cbE (chX sh cs at0 num) en i)) + (bI (decide (¬ (((rF cs e0.1) - num) = rF cs e0.1 ∧ (at0 - 1) = rL cs e0.1)))))), some (.int (nI (i + 1))), some (.int ((rF cs e0.1) - num)), some (.int (at0 - 1))]) C dX3_delete_156 rfl (nI_1 i) (by decide) rfl rfl ?_
                  refine gj_goto (tgt := 33) C dX3_delete_159 (by decide) ?_
                  refine gj_un 8 (lw' := [some (.ref y), some (.int sh), some (.int (bI cs)), some (.int at0), some (.int num), some (.int (at0 + num)), some (.int ((nI (cbE (chX sh cs at0 num) en i)) + (bI (decide (¬ (((rF cs e0.1) - num) = rF cs e0.1 ∧ (at0 - 1) = rL cs e0.1)))))), some (.int (nI (i + 1))), none, some (.int (at0 - 1))]) rfl ?_
                  refine gj_un 9 (lw' := [some (.ref y), some (.int sh), some (.int (bI cs)), some (.int at0), some (.int num), some (.int (at0 + num)), some (.int ((nI (cbE (chX sh cs at0 num) en i)) + (bI (decide (¬ (((rF cs e0.1) - num) = rF cs e0.1 ∧ (at0 - 1) = rL cs e0.1)))))), some (.int (nI (i + 1))), none, none]) rfl ?_
                  have h9 := ih (i + 1) u (by omega) (by rw [mapI_s hei, phX_y (bI_p1 c1), delA_1 hok (vr_F (hval i e0 hei) cs) c4 c5, delB_2 hok (vr_L (hval i e0 hei) cs) c6 c7]; exact hR2)
                  rw [cb_step hei, chX_y (bI_p1 c1), delA_1 hok (vr_F (hval i e0 hei) cs) c4 c5, delB_2 hok (vr_L (hval i e0 hei) cs) c6 c7] at h9
                  exact h9
              · refine gj_iload C dX3_delete_115 rfl ?_
                refine gj_goto (tgt := 138) C dX3_delete_117 (by decide) ?_
                refine gj_istore (lw' := [some (.ref y), some (.int sh), some (.int (bI cs)), some (.int at0), some (.int num), some (.int (at0 + num)), some (.int (nI (cbE (chX sh cs at0 num) en i))), some (.int (nI i)), some (.int ((rF cs e0.1) - num)), some (.int (rL cs e0.1))]) C dX3_delete_138 (by decide) rfl rfl ?_
                refine gj_iload C dX3_delete_140 rfl ?_
                refine gj_aload_n C dX3_delete_142 rfl ?_
                refine gj_iload C dX3_delete_143 rfl ?_
                refine gj_iload_n C dX3_delete_145 rfl ?_
                refine gj_iload C dX3_delete_146 rfl ?_
                refine gj_iload C dX3_delete_148 rfl ?_
                refine gj_cV (As := [.int (nI i), .int (bI cs), .int ((rF cs e0.1) - num), .int (rL cs e0.1)]) (rest := [.int (nI (cbE (chX sh cs at0 num) en i))]) (nc := 0) (ns := 0) C hV (k_Mbecome l D cI cN cZ cJ f y 0 nx _ ml i e0 cs ((rF cs e0.1) - num) (rL cs e0.1) ⟨ad, ga, isR, r5, hW⟩ hj (mapI_at.trans hei)) dX3_delete_150 rfl w_468 rfl w_465 w_2 w_467 ws_24 hd_X3_become rfl hW.1.1 rfl ⟨Nat.le_of_ble_eq_true rfl, Nat.le_of_ble_eq_true rfl⟩ (Nat.le_of_ble_eq_true rfl) (by decide) (by decide) (fun v u hp => ?_)
                obtain ⟨hv, hR2⟩ := hp
                refine gj_rt (f := u) (st' := [.int (bI (decide (¬ (((rF cs e0.1) - num) = rF cs e0.1 ∧ (rL cs e0.1) = rL cs e0.1)))), .int (nI (cbE (chX sh cs at0 num) en i))]) hv rfl rfl ?_
                refine gj_iadd C dX3_delete_153 ?_
                refine gj_istore (lw' := [some (.ref y), some (.int sh), some (.int (bI cs)), some (.int at0), some (.int num), some (.int (at0 + num)), some (.int ((nI (cbE (chX sh cs at0 num) en i)) + (bI (decide (¬ (((rF cs e0.1) - num) = rF cs e0.1 ∧ (rL cs e0.1) = rL cs e0.1)))))), some (.int (nI i)), some (.int ((rF cs e0.1) - num)), some (.int (rL cs e0.1))]) C dX3_delete_154 (by decide) rfl rfl ?_
                refine gj_iinc (v := (nI (i + 1))) (lw' := [some (.ref y), some (.int sh), some (.int (bI cs)), some (.int at0), some (.int num), some (.int (at0 + num)), some (.int ((nI (cbE (chX sh cs at0 num) en i)) + (bI (decide (¬ (((rF cs e0.1) - num) = rF cs e0.1 ∧ (rL cs e0.1) = rL cs e0.1)))))), some (.int (nI (i + 1))), some (.int ((rF cs e0.1) - num)), some (.int (rL cs e0.1))]) C dX3_delete_156 rfl (nI_1 i) (by decide) rfl rfl ?_
                refine gj_goto (tgt := 33) C dX3_delete_159 (by decide) ?_
                refine gj_un 8 (lw' := [some (.ref y), some (.int sh), some (.int (bI cs)), some (.int at0), some (.int num), some (.int (at0 + num)), some (.int ((nI (cbE (chX sh cs at0 num) en i)) + (bI (decide (¬ (((rF cs e0.1) - num) = rF cs e0.1 ∧ (rL cs e0.1) = rL cs e0.1)))))), some (.int (nI (i + 1))), none, some (.int (rL cs e0.1))]) rfl ?_
                refine gj_un 9 (lw' := [some (.ref y), some (.int sh), some (.int (bI cs)), some (.int at0), some (.int num), some (.int (at0 + num)), some (.int ((nI (cbE (chX sh cs at0 num) en i)) + (bI (decide (¬ (((rF cs e0.1) - num) = rF cs e0.1 ∧ (rL cs e0.1) = rL cs e0.1)))))), some (.int (nI (i + 1))), none, none]) rfl ?_
                have h9 := ih (i + 1) u (by omega) (by rw [mapI_s hei, phX_y (bI_p1 c1), delA_1 hok (vr_F (hval i e0 hei) cs) c4 c5, delB_f c6]; exact hR2)
                rw [cb_step hei, chX_y (bI_p1 c1), delA_1 hok (vr_F (hval i e0 hei) cs) c4 c5, delB_f c6] at h9
                exact h9
            · refine gj_iload_n C dX3_delete_98 rfl ?_
              refine gj_goto (tgt := 107) C dX3_delete_99 (by decide) ?_
              refine gj_istore (lw' := [some (.ref y), some (.int sh), some (.int (bI cs)), some (.int at0), some (.int num), some (.int (at0 + num)), some (.int (nI (cbE (chX sh cs at0 num) en i))), some (.int (nI i)), some (.int at0), some (.int (rL cs e0.1))]) C dX3_delete_107 (by decide) rfl rfl ?_
              refine gj_iload C dX3_delete_109 rfl ?_
              refine gj_iload_n C dX3_delete_111 rfl ?_
              refine gj_icmp_ge (tgt := 120) C dX3_delete_112 (by decide) (fun c8 => ?_) (fun c8 => ?_)
              · refine gj_iload C dX3_delete_120 rfl ?_
                refine gj_iload C dX3_delete_122 rfl ?_
                refine gj_icmp_ge (tgt := 133) C dX3_delete_124 (by decide) (fun c9 => ?_) (fun c9 => ?_)
                · refine gj_iload C dX3_delete_133 rfl ?_
                  refine gj_iload C dX3_delete_135 rfl ?_
                  refine gj_isub C dX3_delete_137 ?_
                  refine gj_istore (lw' := [some (.ref y), some (.int sh), some (.int (bI cs)), some (.int at0), some (.int num), some (.int (at0 + num)), some (.int (nI (cbE (chX sh cs at0 num) en i))), some (.int (nI i)), some (.int at0), some (.int ((rL cs e0.1) - num))]) C dX3_delete_138 (by decide) rfl rfl ?_
                  refine gj_iload C dX3_delete_140 rfl ?_
                  refine gj_aload_n C dX3_delete_142 rfl ?_
                  refine gj_iload C dX3_delete_143 rfl ?_
                  refine gj_iload_n C dX3_delete_145 rfl ?_
                  refine gj_iload C dX3_delete_146 rfl ?_
                  refine gj_iload C dX3_delete_148 rfl ?_
                  refine gj_cV (As := [.int (nI i), .int (bI cs), .int at0, .int ((rL cs e0.1) - num)]) (rest := [.int (nI (cbE (chX sh cs at0 num) en i))]) (nc := 0) (ns := 0) C hV (k_Mbecome l D cI cN cZ cJ f y 0 nx _ ml i e0 cs at0 ((rL cs e0.1) - num) ⟨ad, ga, isR, r5, hW⟩ hj (mapI_at.trans hei)) dX3_delete_150 rfl w_468 rfl w_465 w_2 w_467 ws_24 hd_X3_become rfl hW.1.1 rfl ⟨Nat.le_of_ble_eq_true rfl, Nat.le_of_ble_eq_true rfl⟩ (Nat.le_of_ble_eq_true rfl) (by decide) (by decide) (fun v u hp => ?_)
                  obtain ⟨hv, hR2⟩ := hp
                  refine gj_rt (f := u) (st' := [.int (bI (decide (¬ (at0 = rF cs e0.1 ∧ ((rL cs e0.1) - num) = rL cs e0.1)))), .int (nI (cbE (chX sh cs at0 num) en i))]) hv rfl rfl ?_
                  refine gj_iadd C dX3_delete_153 ?_
                  refine gj_istore (lw' := [some (.ref y), some (.int sh), some (.int (bI cs)), some (.int at0), some (.int num), some (.int (at0 + num)), some (.int ((nI (cbE (chX sh cs at0 num) en i)) + (bI (decide (¬ (at0 = rF cs e0.1 ∧ ((rL cs e0.1) - num) = rL cs e0.1)))))), some (.int (nI i)), some (.int at0), some (.int ((rL cs e0.1) - num))]) C dX3_delete_154 (by decide) rfl rfl ?_
                  refine gj_iinc (v := (nI (i + 1))) (lw' := [some (.ref y), some (.int sh), some (.int (bI cs)), some (.int at0), some (.int num), some (.int (at0 + num)), some (.int ((nI (cbE (chX sh cs at0 num) en i)) + (bI (decide (¬ (at0 = rF cs e0.1 ∧ ((rL cs e0.1) - num) = rL cs e0.1)))))), some (.int (nI (i + 1))), some (.int at0), some (.int ((rL cs e0.1) - num))]) C dX3_delete_156 rfl (nI_1 i) (by decide) rfl rfl ?_
                  refine gj_goto (tgt := 33) C dX3_delete_159 (by decide) ?_
                  refine gj_un 8 (lw' := [some (.ref y), some (.int sh), some (.int (bI cs)), some (.int at0), some (.int num), some (.int (at0 + num)), some (.int ((nI (cbE (chX sh cs at0 num) en i)) + (bI (decide (¬ (at0 = rF cs e0.1 ∧ ((rL cs e0.1) - num) = rL cs e0.1)))))), some (.int (nI (i + 1))), none, some (.int ((rL cs e0.1) - num))]) rfl ?_
                  refine gj_un 9 (lw' := [some (.ref y), some (.int sh), some (.int (bI cs)), some (.int at0), some (.int num), some (.int (at0 + num)), some (.int ((nI (cbE (chX sh cs at0 num) en i)) + (bI (decide (¬ (at0 = rF cs e0.1 ∧ ((rL cs e0.1) - num) = rL cs e0.1)))))), some (.int (nI (i + 1))), none, none]) rfl ?_
                  have h9 := ih (i + 1) u (by omega) (by rw [mapI_s hei, phX_y (bI_p1 c1), delA_2 hok (vr_F (hval i e0 hei) cs) c4 c5, delB_1 hok (vr_L (hval i e0 hei) cs) c8 c9]; exact hR2)
                  rw [cb_step hei, chX_y (bI_p1 c1), delA_2 hok (vr_F (hval i e0 hei) cs) c4 c5, delB_1 hok (vr_L (hval i e0 hei) cs) c8 c9] at h9
                  exact h9
                · refine gj_iload_n C dX3_delete_127 rfl ?_
                  refine gj_iconst (v := 1) C dX3_delete_128 (by decide) ?_
                  refine gj_isub C dX3_delete_129 ?_
                  refine gj_goto (tgt := 138) C dX3_delete_130 (by decide) ?_
                  refine gj_istore (lw' := [some (.ref y), some (.int sh), some (.int (bI cs)), some (.int at0), some (.int num), some (.int (at0 + num)), some (.int (nI (cbE (chX sh cs at0 num) en i))), some (.int (nI i)), some (.int at0), some (.int (at0 - 1))]) C dX3_delete_138 (by decide) rfl rfl ?_
                  refine gj_iload C dX3_delete_140 rfl ?_
                  refine gj_aload_n C dX3_delete_142 rfl ?_
                  refine gj_iload C dX3_delete_143 rfl ?_
                  refine gj_iload_n C dX3_delete_145 rfl ?_
                  refine gj_iload C dX3_delete_146 rfl ?_
                  refine gj_iload C dX3_delete_148 rfl ?_
                  refine gj_cV (As := [.int (nI i), .int (bI cs), .int at0, .int (at0 - 1)]) (rest := [.int (nI (cbE (chX sh cs at0 num) en i))]) (nc := 0) (ns := 0) C hV (k_Mbecome l D cI cN cZ cJ f y 0 nx _ ml i e0 cs at0 (at0 - 1) ⟨ad, ga, isR, r5, hW⟩ hj (mapI_at.trans hei)) dX3_delete_150 rfl w_468 rfl w_465 w_2 w_467 ws_24 hd_X3_become rfl hW.1.1 rfl ⟨Nat.le_of_ble_eq_true rfl, Nat.le_of_ble_eq_true rfl⟩ (Nat.le_of_ble_eq_true rfl) (by decide) (by decide) (fun v u hp => ?_)
                  obtain ⟨hv, hR2⟩ := hp
                  refine gj_rt (f := u) (st' := [.int (bI (decide (¬ (at0 = rF cs e0.1 ∧ (at0 - 1) = rL cs e0.1)))), .int (nI (cbE (chX sh cs at0 num) en i))]) hv rfl rfl ?_
                  refine gj_iadd C dX3_delete_153 ?_
                  refine gj_istore (lw' := [some (.ref y), some (.int sh), some (.int (bI cs)), some (.int at0), some (.int num), some (.int (at0 + num)), some (.int ((nI (cbE (chX sh cs at0 num) en i)) + (bI (decide (¬ (at0 = rF cs e0.1 ∧ (at0 - 1) = rL cs e0.1)))))), some (.int (nI i)), some (.int at0), some (.int (at0 - 1))]) C dX3_delete_154 (by decide) rfl rfl ?_
                  refine gj_iinc (v := (nI (i + 1))) (lw' := [some (.ref y), some (.int sh), some (.int (bI cs)), some (.int at0), some (.int num), some (.int (at0 + num)), some (.int ((nI (cbE (chX sh cs at0 num) en i)) + (bI (decide (¬ (at0 = rF cs e0.1 ∧ (at0 - 1) = rL cs e0.1)))))), some (.int (nI (i + 1))), some (.int at0), some (.int (at0 - 1))]) C dX3_delete_156 rfl (nI_1 i) (by decide) rfl rfl ?_
                  refine gj_goto (tgt := 33) C dX3_delete_159 (by decide) ?_
                  refine gj_un 8 (lw' := [some (.ref y), some (.int sh), some (.int (bI cs)), some (.int at0), some (.int num), some (.int (at0 + num)), some (.int ((nI (cbE (chX sh cs at0 num) en i)) + (bI (decide (¬ (at0 = rF cs e0.1 ∧ (at0 - 1) = rL cs e0.1)))))), some (.int (nI (i + 1))), none, some (.int (at0 - 1))]) rfl ?_
                  refine gj_un 9 (lw' := [some (.ref y), some (.int sh), some (.int (bI cs)), some (.int at0), some (.int num), some (.int (at0 + num)), some (.int ((nI (cbE (chX sh cs at0 num) en i)) + (bI (decide (¬ (at0 = rF cs e0.1 ∧ (at0 - 1) = rL cs e0.1)))))), some (.int (nI (i + 1))), none, none]) rfl ?_
                  have h9 := ih (i + 1) u (by omega) (by rw [mapI_s hei, phX_y (bI_p1 c1), delA_2 hok (vr_F (hval i e0 hei) cs) c4 c5, delB_2 hok (vr_L (hval i e0 hei) cs) c8 c9]; exact hR2)
                  rw [cb_step hei, chX_y (bI_p1 c1), delA_2 hok (vr_F (hval i e0 hei) cs) c4 c5, delB_2 hok (vr_L (hval i e0 hei) cs) c8 c9] at h9
                  exact h9
              · refine gj_iload C dX3_delete_115 rfl ?_
                refine gj_goto (tgt := 138) C dX3_delete_117 (by decide) ?_
                refine gj_istore (lw' := [some (.ref y), some (.int sh), some (.int (bI cs)), some (.int at0), some (.int num), some (.int (at0 + num)), some (.int (nI (cbE (chX sh cs at0 num) en i))), some (.int (nI i)), some (.int at0), some (.int (rL cs e0.1))]) C dX3_delete_138 (by decide) rfl rfl ?_
                refine gj_iload C dX3_delete_140 rfl ?_
                refine gj_aload_n C dX3_delete_142 rfl ?_
                refine gj_iload C dX3_delete_143 rfl ?_
                refine gj_iload_n C dX3_delete_145 rfl ?_
                refine gj_iload C dX3_delete_146 rfl ?_
                refine gj_iload C dX3_delete_148 rfl ?_
                refine gj_cV (As := [.int (nI i), .int (bI cs), .int at0, .int (rL cs e0.1)]) (rest := [.int (nI (cbE (chX sh cs at0 num) en i))]) (nc := 0) (ns := 0) C hV (k_Mbecome l D cI cN cZ cJ f y 0 nx _ ml i e0 cs at0 (rL cs e0.1) ⟨ad, ga, isR, r5, hW⟩ hj (mapI_at.trans hei)) dX3_delete_150 rfl w_468 rfl w_465 w_2 w_467 ws_24 hd_X3_become rfl hW.1.1 rfl ⟨Nat.le_of_ble_eq_true rfl, Nat.le_of_ble_eq_true rfl⟩ (Nat.le_of_ble_eq_true rfl) (by decide) (by decide) (fun v u hp => ?_)
                obtain ⟨hv, hR2⟩ := hp
                refine gj_rt (f := u) (st' := [.int (bI (decide (¬ (at0 = rF cs e0.1 ∧ (rL cs e0.1) = rL cs e0.1)))), .int (nI (cbE (chX sh cs at0 num) en i))]) hv rfl rfl ?_
                refine gj_iadd C dX3_delete_153 ?_
                refine gj_istore (lw' := [some (.ref y), some (.int sh), some (.int (bI cs)), some (.int at0), some (.int num), some (.int (at0 + num)), some (.int ((nI (cbE (chX sh cs at0 num) en i)) + (bI (decide (¬ (at0 = rF cs e0.1 ∧ (rL cs e0.1) = rL cs e0.1)))))), some (.int (nI i)), some (.int at0), some (.int (rL cs e0.1))]) C dX3_delete_154 (by decide) rfl rfl ?_
                refine gj_iinc (v := (nI (i + 1))) (lw' := [some (.ref y), some (.int sh), some (.int (bI cs)), some (.int at0), some (.int num), some (.int (at0 + num)), some (.int ((nI (cbE (chX sh cs at0 num) en i)) + (bI (decide (¬ (at0 = rF cs e0.1 ∧ (rL cs e0.1) = rL cs e0.1)))))), some (.int (nI (i + 1))), some (.int at0), some (.int (rL cs e0.1))]) C dX3_delete_156 rfl (nI_1 i) (by decide) rfl rfl ?_
                refine gj_goto (tgt := 33) C dX3_delete_159 (by decide) ?_
                refine gj_un 8 (lw' := [some (.ref y), some (.int sh), some (.int (bI cs)), some (.int at0), some (.int num), some (.int (at0 + num)), some (.int ((nI (cbE (chX sh cs at0 num) en i)) + (bI (decide (¬ (at0 = rF cs e0.1 ∧ (rL cs e0.1) = rL cs e0.1)))))), some (.int (nI (i + 1))), none, some (.int (rL cs e0.1))]) rfl ?_
                refine gj_un 9 (lw' := [some (.ref y), some (.int sh), some (.int (bI cs)), some (.int at0), some (.int num), some (.int (at0 + num)), some (.int ((nI (cbE (chX sh cs at0 num) en i)) + (bI (decide (¬ (at0 = rF cs e0.1 ∧ (rL cs e0.1) = rL cs e0.1)))))), some (.int (nI (i + 1))), none, none]) rfl ?_
                have h9 := ih (i + 1) u (by omega) (by rw [mapI_s hei, phX_y (bI_p1 c1), delA_2 hok (vr_F (hval i e0 hei) cs) c4 c5, delB_f c8]; exact hR2)
                rw [cb_step hei, chX_y (bI_p1 c1), delA_2 hok (vr_F (hval i e0 hei) cs) c4 c5, delB_f c8] at h9
                exact h9
          · refine gj_iload C dX3_delete_86 rfl ?_
            refine gj_goto (tgt := 107) C dX3_delete_88 (by decide) ?_
            refine gj_istore (lw' := [some (.ref y), some (.int sh), some (.int (bI cs)), some (.int at0), some (.int num), some (.int (at0 + num)), some (.int (nI (cbE (chX sh cs at0 num) en i))), some (.int (nI i)), some (.int (rF cs e0.1)), some (.int (rL cs e0.1))]) C dX3_delete_107 (by decide) rfl rfl ?_
            refine gj_iload C dX3_delete_109 rfl ?_
            refine gj_iload_n C dX3_delete_111 rfl ?_
            refine gj_icmp_ge (tgt := 120) C dX3_delete_112 (by decide) (fun c10 => ?_) (fun c10 => ?_)
            · refine gj_iload C dX3_delete_120 rfl ?_
              refine gj_iload C dX3_delete_122 rfl ?_
              refine gj_icmp_ge (tgt := 133) C dX3_delete_124 (by decide) (fun c11 => ?_) (fun c11 => ?_)
              · refine gj_iload C dX3_delete_133 rfl ?_
                refine gj_iload C dX3_delete_135 rfl ?_
                refine gj_isub C dX3_delete_137 ?_
                refine gj_istore (lw' := [some (.ref y), some (.int sh), some (.int (bI cs)), some (.int at0), some (.int num), some (.int (at0 + num)), some (.int (nI (cbE (chX sh cs at0 num) en i))), some (.int (nI i)), some (.int (rF cs e0.1)), some (.int ((rL cs e0.1) - num))]) C dX3_delete_138 (by decide) rfl rfl ?_
                refine gj_iload C dX3_delete_140 rfl ?_
                refine gj_aload_n C dX3_delete_142 rfl ?_
                refine gj_iload C dX3_delete_143 rfl ?_
                refine gj_iload_n C dX3_delete_145 rfl ?_
                refine gj_iload C dX3_delete_146 rfl ?_
                refine gj_iload C dX3_delete_148 rfl ?_
                refine gj_cV (As := [.int (nI i), .int (bI cs), .int (rF cs e0.1), .int ((rL cs e0.1) - num)]) (rest := [.int (nI (cbE (chX sh cs at0 num) en i))]) (nc := 0) (ns := 0) C hV (k_Mbecome l D cI cN cZ cJ f y 0 nx _ ml i e0 cs (rF cs e0.1) ((rL cs e0.1) - num) ⟨ad, ga, isR, r5, hW⟩ hj (mapI_at.trans hei)) dX3_delete_150 rfl w_468 rfl w_465 w_2 w_467 ws_24 hd_X3_become rfl hW.1.1 rfl ⟨Nat.le_of_ble_eq_true rfl, Nat.le_of_ble_eq_true rfl⟩ (Nat.le_of_ble_eq_true rfl) (by decide) (by decide) (fun v u hp => ?_)
                obtain ⟨hv, hR2⟩ := hp
                refine gj_rt (f := u) (st' := [.int (bI (decide (¬ ((rF cs e0.1) = rF cs e0.1 ∧ ((rL cs e0.1) - num) = rL cs e0.1)))), .int (nI (cbE (chX sh cs at0 num) en i))]) hv rfl rfl ?_
                refine gj_iadd C dX3_delete_153 ?_
                refine gj_istore (lw' := [some (.ref y), some (.int sh), some (.int (bI cs)), some (.int at0), some (.int num), some (.int (at0 + num)), some (.int ((nI (cbE (chX sh cs at0 num) en i)) + (bI (decide (¬ ((rF cs e0.1) = rF cs e0.1 ∧ ((rL cs e0.1) - num) = rL cs e0.1)))))), some (.int (nI i)), some (.int (rF cs e0.1)), some (.int ((rL cs e0.1) - num))]) C dX3_delete_154 (by decide) rfl rfl ?_
                refine gj_iinc (v := (nI (i + 1))) (lw' := [some (.ref y), some (.int sh), some (.int (bI cs)), some (.int at0), some (.int num), some (.int (at0 + num)), some (.int ((nI (cbE (chX sh cs at0 num) en i)) + (bI (decide (¬ ((rF cs e0.1) = rF cs e0.1 ∧ ((rL cs e0.1) - num) = rL cs e0.1)))))), some (.int (nI (i + 1))), some (.int (rF cs e0.1)), some (.int ((rL cs e0.1) - num))]) C dX3_delete_156 rfl (nI_1 i) (by decide) rfl rfl ?_
                refine gj_goto (tgt := 33) C dX3_delete_159 (by decide) ?_
                refine gj_un 8 (lw' := [some (.ref y), some (.int sh), some (.int (bI cs)), some (.int at0), some (.int num), some (.int (at0 + num)), some (.int ((nI (cbE (chX sh cs at0 num) en i)) + (bI (decide (¬ ((rF cs e0.1) = rF cs e0.1 ∧ ((rL cs e0.1) - num) = rL cs e0.1)))))), some (.int (nI (i + 1))), none, some (.int ((rL cs e0.1) - num))]) rfl ?_
                refine gj_un 9 (lw' := [some (.ref y), some (.int sh), some (.int (bI cs)), some (.int at0), some (.int num), some (.int (at0 + num)), some (.int ((nI (cbE (chX sh cs at0 num) en i)) + (bI (decide (¬ ((rF cs e0.1) = rF cs e0.1 ∧ ((rL cs e0.1) - num) = rL cs e0.1)))))), some (.int (nI (i + 1))), none, none]) rfl ?_
                have h9 := ih (i + 1) u (by omega) (by rw [mapI_s hei, phX_y (bI_p1 c1), delA_f c4, delB_1 hok (vr_L (hval i e0 hei) cs) c10 c11]; exact hR2)
                rw [cb_step hei, chX_y (bI_p1 c1), delA_f c4, delB_1 hok (vr_L (hval i e0 hei) cs) c10 c11] at h9
                exact h9
              · refine gj_iload_n C dX3_delete_127 rfl ?_
                refine gj_iconst (v := 1) C dX3_delete_128 (by decide) ?_
                refine gj_isub C dX3_delete_129 ?_
                refine gj_goto (tgt := 138) C dX3_delete_130 (by decide) ?_
                refine gj_istore (lw' := [some (.ref y), some (.int sh), some (.int (bI cs)), some (.int at0), some (.int num), some (.int (at0 + num)), some (.int (nI (cbE (chX sh cs at0 num) en i))), some (.int (nI i)), some (.int (rF cs e0.1)), some (.int (at0 - 1))]) C dX3_delete_138 (by decide) rfl rfl ?_
                refine gj_iload C dX3_delete_140 rfl ?_
                refine gj_aload_n C dX3_delete_142 rfl ?_
                refine gj_iload C dX3_delete_143 rfl ?_
                refine gj_iload_n C dX3_delete_145 rfl ?_
                refine gj_iload C dX3_delete_146 rfl ?_
                refine gj_iload C dX3_delete_148 rfl ?_
                refine gj_cV (As := [.int (nI i), .int (bI cs), .int (rF cs e0.1), .int (at0 - 1)]) (rest := [.int (nI (cbE (chX sh cs at0 num) en i))]) (nc := 0) (ns := 0) C hV (k_Mbecome l D cI cN cZ cJ f y 0 nx _ ml i e0 cs (rF cs e0.1) (at0 - 1) ⟨ad, ga, isR, r5, hW⟩ hj (mapI_at.trans hei)) dX3_delete_150 rfl w_468 rfl w_465 w_2 w_467 ws_24 hd_X3_become rfl hW.1.1 rfl ⟨Nat.le_of_ble_eq_true rfl, Nat.le_of_ble_eq_true rfl⟩ (Nat.le_of_ble_eq_true rfl) (by decide) (by decide) (fun v u hp => ?_)
                obtain ⟨hv, hR2⟩ := hp
                refine gj_rt (f := u) (st' := [.int (bI (decide (¬ ((rF cs e0.1) = rF cs e0.1 ∧ (at0 - 1) = rL cs e0.1)))), .int (nI (cbE (chX sh cs at0 num) en i))]) hv rfl rfl ?_
                refine gj_iadd C dX3_delete_153 ?_
                refine gj_istore (lw' := [some (.ref y), some (.int sh), some (.int (bI cs)), some (.int at0), some (.int num), some (.int (at0 + num)), some (.int ((nI (cbE (chX sh cs at0 num) en i)) + (bI (decide (¬ ((rF cs e0.1) = rF cs e0.1 ∧ (at0 - 1) = rL cs e0.1)))))), some (.int (nI i)), some (.int (rF cs e0.1)), some (.int (at0 - 1))]) C dX3_delete_154 (by decide) rfl rfl ?_
                refine gj_iinc (v := (nI (i + 1))) (lw' := [some (.ref y), some (.int sh), some (.int (bI cs)), some (.int at0), some (.int num), some (.int (at0 + num)), some (.int ((nI (cbE (chX sh cs at0 num) en i)) + (bI (decide (¬ ((rF cs e0.1) = rF cs e0.1 ∧ (at0 - 1) = rL cs e0.1)))))), some (.int (nI (i + 1))), some (.int (rF cs e0.1)), some (.int (at0 - 1))]) C dX3_delete_156 rfl (nI_1 i) (by decide) rfl rfl ?_
                refine gj_goto (tgt := 33) C dX3_delete_159 (by decide) ?_
                refine gj_un 8 (lw' := [some (.ref y), some (.int sh), some (.int (bI cs)), some (.int at0), some (.int num), some (.int (at0 + num)), some (.int ((nI (cbE (chX sh cs at0 num) en i)) + (bI (decide (¬ ((rF cs e0.1) = rF cs e0.1 ∧ (at0 - 1) = rL cs e0.1)))))), some (.int (nI (i + 1))), none, some (.int (at0 - 1))]) rfl ?_
                refine gj_un 9 (lw' := [some (.ref y), some (.int sh), some (.int (bI cs)), some (.int at0), some (.int num), some (.int (at0 + num)), some (.int ((nI (cbE (chX sh cs at0 num) en i)) + (bI (decide (¬ ((rF cs e0.1) = rF cs e0.1 ∧ (at0 - 1) = rL cs e0.1)))))), some (.int (nI (i + 1))), none, none]) rfl ?_
                have h9 := ih (i + 1) u (by omega) (by rw [mapI_s hei, phX_y (bI_p1 c1), delA_f c4, delB_2 hok (vr_L (hval i e0 hei) cs) c10 c11]; exact hR2)
                rw [cb_step hei, chX_y (bI_p1 c1), delA_f c4, delB_2 hok (vr_L (hval i e0 hei) cs) c10 c11] at h9
                exact h9
            · refine gj_iload C dX3_delete_115 rfl ?_
              refine gj_goto (tgt := 138) C dX3_delete_117 (by decide) ?_
              refine gj_istore (lw' := [some (.ref y), some (.int sh), some (.int (bI cs)), some (.int at0), some (.int num), some (.int (at0 + num)), some (.int (nI (cbE (chX sh cs at0 num) en i))), some (.int (nI i)), some (.int (rF cs e0.1)), some (.int (rL cs e0.1))]) C dX3_delete_138 (by decide) rfl rfl ?_
              refine gj_iload C dX3_delete_140 rfl ?_
              refine gj_aload_n C dX3_delete_142 rfl ?_
              refine gj_iload C dX3_delete_143 rfl ?_
              refine gj_iload_n C dX3_delete_145 rfl ?_
              refine gj_iload C dX3_delete_146 rfl ?_
              refine gj_iload C dX3_delete_148 rfl ?_
              refine gj_cV (As := [.int (nI i), .int (bI cs), .int (rF cs e0.1), .int (rL cs e0.1)]) (rest := [.int (nI (cbE (chX sh cs at0 num) en i))]) (nc := 0) (ns := 0) C hV (k_Mbecome l D cI cN cZ cJ f y 0 nx _ ml i e0 cs (rF cs e0.1) (rL cs e0.1) ⟨ad, ga, isR, r5, hW⟩ hj (mapI_at.trans hei)) dX3_delete_150 rfl w_468 rfl w_465 w_2 w_467 ws_24 hd_X3_become rfl hW.1.1 rfl ⟨Nat.le_of_ble_eq_true rfl, Nat.le_of_ble_eq_true rfl⟩ (Nat.le_of_ble_eq_true rfl) (by decide) (by decide) (fun v u hp => ?_)
              obtain ⟨hv, hR2⟩ := hp
              refine gj_rt (f := u) (st' := [.int (bI (decide (¬ ((rF cs e0.1) = rF cs e0.1 ∧ (rL cs e0.1) = rL cs e0.1)))), .int (nI (cbE (chX sh cs at0 num) en i))]) hv rfl rfl ?_
              refine gj_iadd C dX3_delete_153 ?_
              refine gj_istore (lw' := [some (.ref y), some (.int sh), some (.int (bI cs)), some (.int at0), some (.int num), some (.int (at0 + num)), some (.int ((nI (cbE (chX sh cs at0 num) en i)) + (bI (decide (¬ ((rF cs e0.1) = rF cs e0.1 ∧ (rL cs e0.1) = rL cs e0.1)))))), some (.int (nI i)), some (.int (rF cs e0.1)), some (.int (rL cs e0.1))]) C dX3_delete_154 (by decide) rfl rfl ?_
              refine gj_iinc (v := (nI (i + 1))) (lw' := [some (.ref y), some (.int sh), some (.int (bI cs)), some (.int at0), some (.int num), some (.int (at0 + num)), some (.int ((nI (cbE (chX sh cs at0 num) en i)) + (bI (decide (¬ ((rF cs e0.1) = rF cs e0.1 ∧ (rL cs e0.1) = rL cs e0.1)))))), some (.int (nI (i + 1))), some (.int (rF cs e0.1)), some (.int (rL cs e0.1))]) C dX3_delete_156 rfl (nI_1 i) (by decide) rfl rfl ?_
              refine gj_goto (tgt := 33) C dX3_delete_159 (by decide) ?_
              refine gj_un 8 (lw' := [some (.ref y), some (.int sh), some (.int (bI cs)), some (.int at0), some (.int num), some (.int (at0 + num)), some (.int ((nI (cbE (chX sh cs at0 num) en i)) + (bI (decide (¬ ((rF cs e0.1) = rF cs e0.1 ∧ (rL cs e0.1) = rL cs e0.1)))))), some (.int (nI (i + 1))), none, some (.int (rL cs e0.1))]) rfl ?_
              refine gj_un 9 (lw' := [some (.ref y), some (.int sh), some (.int (bI cs)), some (.int at0), some (.int num), some (.int (at0 + num)), some (.int ((nI (cbE (chX sh cs at0 num) en i)) + (bI (decide (¬ ((rF cs e0.1) = rF cs e0.1 ∧ (rL cs e0.1) = rL cs e0.1)))))), some (.int (nI (i + 1))), none, none]) rfl ?_
              have h9 := ih (i + 1) u (by omega) (by rw [mapI_s hei, phX_y (bI_p1 c1), delA_f c4, delB_f c10]; exact hR2)
              rw [cb_step hei, chX_y (bI_p1 c1), delA_f c4, delB_f c10] at h9
              exact h9
        · refine gj_goto (tgt := 156) C dX3_delete_59 (by decide) ?_
          refine gj_iinc (v := (nI (i + 1))) (lw' := [some (.ref y), some (.int sh), some (.int (bI cs)), some (.int at0), some (.int num), some (.int (at0 + num)), some (.int (nI (cbE (chX sh cs at0 num) en i))), some (.int (nI (i + 1))), none, none]) C dX3_delete_156 rfl (nI_1 i) (by decide) rfl rfl ?_
          refine gj_goto (tgt := 33) C dX3_delete_159 (by decide) ?_
          have h9 := ih (i + 1) f (by omega) (by rw [mapI_k hei (phX_n (bI_p0 c1))]; exact ⟨ad, ga, isR, r5, hW⟩)
          rw [cb_f hei (chX_n (bI_p0 c1))] at h9
          exact h9
  obtain ⟨ad, ga, isR, r5, hW⟩ := hR
  refine gj_aload_n C dX3_delete_0 rfl ?_
  refine gj_aload_n C dX3_delete_1 rfl ?_
  refine gj_iload_n C dX3_delete_2 rfl ?_
  refine gj_iload_n C dX3_delete_3 rfl ?_
  refine gj_iload_n C dX3_delete_4 rfl ?_
  refine gj_iload C dX3_delete_5 rfl ?_
  refine gj_cV (As := [.int sh, .int (bI cs), .int at0, .int num]) (rest := [.ref y]) (nc := 0) (ns := 0) C hV (k_MisLine l D cI cN cZ cJ f y sh cs at0 num) dX3_delete_7 rfl w_449 rfl w_446 w_2 w_448 ws_20 hd_X3_isLine rfl hW.1.1 rfl ⟨Nat.le_of_ble_eq_true rfl, Nat.le_of_ble_eq_true rfl⟩ (Nat.le_of_ble_eq_true rfl) (by decide) (by decide) (fun v u hp12 => ?_)
  refine gj_rt (st' := [.int (bI (decide (vn sh cs at0 num))), .ref y]) hp12.1 hp12.2 rfl ?_
  refine gj_if_eq (tgt := 17) C dX3_delete_10 (by decide) (fun c13 => ?_) (fun c13 => ?_)
  · refine gj_iconst (v := 1) C dX3_delete_17 (by decide) ?_
    refine gj_put C dX3_delete_18 hW.1.1 rfl inX3 tyX3_ok nmX3 0 (by decide) w_329 rfl rfl rfl (Nat.le_of_ble_eq_true rfl) ?_
    refine gj_f (f' := gm_up f y (cMo 1 ad (nI (cn en 4096)) isR r5 (nI ml.length))) rfl ?_
    have hW := rpm_cd hW 1 (nI (cn en 4096))
    generalize gm_up f y (cMo 1 ad (nI (cn en 4096)) isR r5 (nI ml.length)) = f at hW ⊢
    refine gj_iload_n C dX3_delete_21 rfl ?_
    refine gj_iload C dX3_delete_22 rfl ?_
    refine gj_iadd C dX3_delete_24 ?_
    refine gj_istore (lw' := [some (.ref y), some (.int sh), some (.int (bI cs)), some (.int at0), some (.int num), some (.int (at0 + num)), none, none, none, none]) C dX3_delete_25 (by decide) rfl rfl ?_
    refine gj_iconst (v := 0) C dX3_delete_27 (by decide) ?_
    refine gj_istore (lw' := [some (.ref y), some (.int sh), some (.int (bI cs)), some (.int at0), some (.int num), some (.int (at0 + num)), some (.int 0), none, none, none]) C dX3_delete_28 (by decide) rfl rfl ?_
    refine gj_iconst (v := 0) C dX3_delete_30 (by decide) ?_
    refine gj_istore (lw' := [some (.ref y), some (.int sh), some (.int (bI cs)), some (.int at0), some (.int num), some (.int (at0 + num)), some (.int 0), some (.int 0), none, none]) C dX3_delete_31 (by decide) rfl rfl ?_
    refine gj_iload C dX3_delete_33 rfl ?_
    refine gj_sipush (v := 4096) C dX3_delete_35 (by decide) ?_
    refine gj_icmp_geF (tgt := 162) C dX3_delete_38 (by decide) (by decide) ?_
    refine gj_aload_n C dX3_delete_41 rfl ?_
    refine gj_get C dX3_delete_42 hW.1.1 rfl inX3 0 (by decide) w_329 rfl ?_
    refine gj_if_neT (tgt := 162) C dX3_delete_45 (by decide) (by decide) ?_
    refine gj_iload C dX3_delete_162 rfl ?_
    exact gj_iret C hr hlk dX3_delete_164 (⟨_, rfl, Or.inr ⟨bI_p0 c13, ⟨ad, ga, isR, r5, hW⟩⟩⟩)
  · refine gj_iconst (v := 0) C dX3_delete_13 (by decide) ?_
    refine gj_goto (tgt := 18) C dX3_delete_14 (by decide) ?_
    refine gj_put C dX3_delete_18 hW.1.1 rfl inX3 tyX3_ok nmX3 0 (by decide) w_329 rfl rfl rfl (Nat.le_of_ble_eq_true rfl) ?_
    refine gj_f (f' := gm_up f y (cMo 0 ad (nI (cn en 4096)) isR r5 (nI ml.length))) rfl ?_
    have hW := rpm_cd hW 0 (nI (cn en 4096))
    generalize gm_up f y (cMo 0 ad (nI (cn en 4096)) isR r5 (nI ml.length)) = f at hW ⊢
    refine gj_iload_n C dX3_delete_21 rfl ?_
    refine gj_iload C dX3_delete_22 rfl ?_
    refine gj_iadd C dX3_delete_24 ?_
    refine gj_istore (lw' := [some (.ref y), some (.int sh), some (.int (bI cs)), some (.int at0), some (.int num), some (.int (at0 + num)), none, none, none, none]) C dX3_delete_25 (by decide) rfl rfl ?_
    refine gj_iconst (v := 0) C dX3_delete_27 (by decide) ?_
    refine gj_istore (lw' := [some (.ref y), some (.int sh), some (.int (bI cs)), some (.int at0), some (.int num), some (.int (at0 + num)), some (.int 0), none, none, none]) C dX3_delete_28 (by decide) rfl rfl ?_
    refine gj_iconst (v := 0) C dX3_delete_30 (by decide) ?_
    refine gj_istore (lw' := [some (.ref y), some (.int sh), some (.int (bI cs)), some (.int at0), some (.int num), some (.int (at0 + num)), some (.int 0), some (.int 0), none, none]) C dX3_delete_31 (by decide) rfl rfl ?_
    exact loop (bI_p1 c13) 4096 0 f (by omega) (by rw [mapI_0]; exact ⟨ad, ga, isR, r5, hW⟩)
set_option maxRecDepth 100000 in
set_option maxHeartbeats 4000000 in
theorem k_Mmove (l : Launch) (D : va_G) (cI cN cZ cJ : ClassId) (f : gm) (y : Nat) (cd : Int32) (nx : Option Rc) (en : Nat → Option En) (ml : List Nat) (sh rw co : Int32) (hR : RpM cI cZ f y cd nx en ml) (hnv : ∀ r, nx = some r → vr r) : gk l yX3_move (.code yX3_move cX3_move 11 (Option.some Jvm.ClassFile.FieldType.int)) (rmk 1 0 0) D (tyl cI cN cZ cJ) [.ref y, .int sh, .int rw, .int co] f (fun v u => ∃ b, v = some (.int b) ∧ ((∃ r9, nx = some r9 ∧ vc sh rw co ∧ vc sh (rM sh (rw - r9.2.1) (co - r9.2.2.1) r9).2.2.2.1 (rM sh (rw - r9.2.1) (co - r9.2.2.1) r9).2.2.2.2 ∧ b = nI (cbE (chM r9 (rM sh (rw - r9.2.1) (co - r9.2.2.1) r9)) en 4096) ∧ RpM cI cZ u y 0 nx (mapE (phM r9 (rM sh (rw - r9.2.1) (co - r9.2.2.1) r9)) en) ml) ∨ ((¬ vc sh rw co ∨ (vc sh rw co ∧ ∃ r9, nx = some r9 ∧ ¬ vc sh (rM sh (rw - r9.2.1) (co - r9.2.2.1) r9).2.2.2.1 (rM sh (rw - r9.2.1) (co - r9.2.2.1) r9).2.2.2.2)) ∧ RpM cI cZ u y 1 nx en ml) ∨ (vc sh rw co ∧ nx = none ∧ RpM cI cZ u y 2 nx en ml))) := by
  refine gk_of [some (.ref y), some (.int sh), some (.int rw), some (.int co), none, none, none, none, none, none, none] (by decide) rfl (Nat.le_of_ble_eq_true rfl) rfl ?_
  intro p e s m args below meth c A C hV hr hlk hnm
  have hd : ∀ j, 4096 ≤ j → en j = none := hR.hd
  obtain ⟨ad, ga, isR, r5, hW⟩ := hR
  cases nx with
  | none =>
    have hq : isR = 0 := hW.2.2.1
    subst hq
    refine gj_iload_n C dX3_move_0 rfl ?_
    refine gj_iconst (v := 0) C dX3_move_1 (by decide) ?_
    refine gj_bipush (v := 7) C dX3_move_2 (by decide) ?_
    refine gj_cS (As := [.int sh, .int 0, .int 7]) (rest := []) (nc := 0) (ns := 0) C hV (k_within l D (tyl cI cN cZ cJ) f sh 0 7) dX3_move_4 rfl w_392 rfl w_390 w_2 w_391 hd_X3_within rfl ⟨Nat.le_of_ble_eq_true rfl, Nat.le_of_ble_eq_true rfl⟩ (Nat.le_of_ble_eq_true rfl) (by decide) (by decide) (fun v u hp6 => ?_)
    refine gj_rt (st' := [.int (bI (decide (wn sh 0 7)))]) hp6.1 hp6.2 rfl ?_
    refine gj_if_eq (tgt := 35) C dX3_move_7 (by decide) (fun c7 => ?_) (fun c7 => ?_)
    · refine gj_iconst (v := 0) C dX3_move_35 (by decide) ?_
      refine gj_istore (lw' := [some (.ref y), some (.int sh), some (.int rw), some (.int co), some (.int 0), none, none, none, none, none, none]) C dX3_move_36 (by decide) rfl rfl ?_
      refine gj_iload_n C dX3_move_38 rfl ?_
      refine gj_aload_n C dX3_move_39 rfl ?_
      refine gj_get C dX3_move_40 hW.1.1 rfl inX3 11 (by decide) w_340 rfl ?_
      refine gj_isub C dX3_move_43 ?_
      refine gj_istore (lw' := [some (.ref y), some (.int sh), some (.int rw), some (.int co), some (.int 0), some (.int (rw - r5.2.1)), none, none, none, none, none]) C dX3_move_44 (by decide) rfl rfl ?_
      refine gj_iload_n C dX3_move_46 rfl ?_
      refine gj_aload_n C dX3_move_47 rfl ?_
      refine gj_get C dX3_move_48 hW.1.1 rfl inX3 12 (by decide) w_341 rfl ?_
      refine gj_isub C dX3_move_51 ?_
      refine gj_istore (lw' := [some (.ref y), some (.int sh), some (.int rw), some (.int co), some (.int 0), some (.int (rw - r5.2.1)), some (.int (co - r5.2.2.1)), none, none, none, none]) C dX3_move_52 (by decide) rfl rfl ?_
      refine gj_aload_n C dX3_move_54 rfl ?_
      refine gj_get C dX3_move_55 hW.1.1 rfl inX3 13 (by decide) w_342 rfl ?_
      refine gj_iload C dX3_move_58 rfl ?_
      refine gj_iadd C dX3_move_60 ?_
      refine gj_ldc (v := 1048576) C dX3_move_61 w_393 ?_
      refine gj_icmp_gt (tgt := 83) C dX3_move_63 (by decide) (fun c8 => ?_) (fun c8 => ?_)
      · refine gj_iconst (v := 0) C dX3_move_83 (by decide) ?_
        refine gj_istore (lw' := [some (.ref y), some (.int sh), some (.int rw), some (.int co), some (.int 0), some (.int (rw - r5.2.1)), some (.int (co - r5.2.2.1)), some (.int 0), none, none, none]) C dX3_move_84 (by decide) rfl rfl ?_
        refine gj_aload_n C dX3_move_86 rfl ?_
        refine gj_iload C dX3_move_87 rfl ?_
        refine gj_if_eqT (tgt := 104) C dX3_move_89 (by decide) rfl ?_
        refine gj_iconst (v := 1) C dX3_move_104 (by decide) ?_
        refine gj_goto (tgt := 120) C dX3_move_105 (by decide) ?_
        refine gj_put C dX3_move_120 hW.1.1 rfl inX3 tyX3_ok nmX3 0 (by decide) w_329 rfl rfl rfl (Nat.le_of_ble_eq_true rfl) ?_
        refine gj_f (f' := gm_up f y (cMo 1 ad (nI (cn en 4096)) 0 r5 (nI ml.length))) rfl ?_
        have hW := rpm_cd hW 1 (nI (cn en 4096))
        generalize gm_up f y (cMo 1 ad (nI (cn en 4096)) 0 r5 (nI ml.length)) = f at hW ⊢
        refine gj_aload_n C dX3_move_123 rfl ?_
        refine gj_get C dX3_move_124 hW.1.1 rfl inX3 0 (by decide) w_329 rfl ?_
        refine gj_if_eqF (tgt := 132) C dX3_move_127 (by decide) (by decide) ?_
        refine gj_iconst (v := 0) C dX3_move_130 (by decide) ?_
        exact gj_iret C hr hlk dX3_move_131 (⟨_, rfl, Or.inr (Or.inl ⟨Or.inl (by have qc7 := bI_p0 c7; revert qc7; simp only [i_le, i_lt, i_eq, t_0, t_1, t_5, t_7, t_8, t_16383, t_16384, t_32768, t_1048576, vs, vl, vc, vn, ll, rF, rL, rMeet, rIn, rY, if_true, if_false, Bool.false_eq_true, ite_true, ite_false, reduceIte, wn, vr]; (try intros); omega), ⟨ad, ga, _, r5, hW⟩⟩)⟩)
      · refine gj_aload_n C dX3_move_66 rfl ?_
        refine gj_get C dX3_move_67 hW.1.1 rfl inX3 14 (by decide) w_343 rfl ?_
        refine gj_iload C dX3_move_70 rfl ?_
        refine gj_iadd C dX3_move_72 ?_
        refine gj_sipush (v := 16384) C dX3_move_73 (by decide) ?_
        refine gj_icmp_gt (tgt := 83) C dX3_move_76 (by decide) (fun c9 => ?_) (fun c9 => ?_)
        · refine gj_iconst (v := 0) C dX3_move_83 (by decide) ?_
          refine gj_istore (lw' := [some (.ref y), some (.int sh), some (.int rw), some (.int co), some (.int 0), some (.int (rw - r5.2.1)), some (.int (co - r5.2.2.1)), some (.int 0), none, none, none]) C dX3_move_84 (by decide) rfl rfl ?_
          refine gj_aload_n C dX3_move_86 rfl ?_
          refine gj_iload C dX3_move_87 rfl ?_
          refine gj_if_eqT (tgt := 104) C dX3_move_89 (by decide) rfl ?_
          refine gj_iconst (v := 1) C dX3_move_104 (by decide) ?_
          refine gj_goto (tgt := 120) C dX3_move_105 (by decide) ?_
          refine gj_put C dX3_move_120 hW.1.1 rfl inX3 tyX3_ok nmX3 0 (by decide) w_329 rfl rfl rfl (Nat.le_of_ble_eq_true rfl) ?_
          refine gj_f (f' := gm_up f y (cMo 1 ad (nI (cn en 4096)) 0 r5 (nI ml.length))) rfl ?_
          have hW := rpm_cd hW 1 (nI (cn en 4096))
          generalize gm_up f y (cMo 1 ad (nI (cn en 4096)) 0 r5 (nI ml.length)) = f at hW ⊢
          refine gj_aload_n C dX3_move_123 rfl ?_
          refine gj_get C dX3_move_124 hW.1.1 rfl inX3 0 (by decide) w_329 rfl ?_
          refine gj_if_eqF (tgt := 132) C dX3_move_127 (by decide) (by decide) ?_
          refine gj_iconst (v := 0) C dX3_move_130 (by decide) ?_
          exact gj_iret C hr hlk dX3_move_131 (⟨_, rfl, Or.inr (Or.inl ⟨Or.inl (by have qc7 := bI_p0 c7; revert qc7; simp only [i_le, i_lt, i_eq, t_0, t_1, t_5, t_7, t_8, t_16383, t_16384, t_32768, t_1048576, vs, vl, vc, vn, ll, rF, rL, rMeet, rIn, rY, if_true, if_false, Bool.false_eq_true, ite_true, ite_false, reduceIte, wn, vr]; (try intros); omega), ⟨ad, ga, _, r5, hW⟩⟩)⟩)
        · refine gj_iconst (v := 1) C dX3_move_79 (by decide) ?_
          refine gj_goto (tgt := 84) C dX3_move_80 (by decide) ?_
          refine gj_istore (lw' := [some (.ref y), some (.int sh), some (.int rw), some (.int co), some (.int 0), some (.int (rw - r5.2.1)), some (.int (co - r5.2.2.1)), some (.int 1), none, none, none]) C dX3_move_84 (by decide) rfl rfl ?_
          refine gj_aload_n C dX3_move_86 rfl ?_
          refine gj_iload C dX3_move_87 rfl ?_
          refine gj_if_eqT (tgt := 104) C dX3_move_89 (by decide) rfl ?_
          refine gj_iconst (v := 1) C dX3_move_104 (by decide) ?_
          refine gj_goto (tgt := 120) C dX3_move_105 (by decide) ?_
          refine gj_put C dX3_move_120 hW.1.1 rfl inX3 tyX3_ok nmX3 0 (by decide) w_329 rfl rfl rfl (Nat.le_of_ble_eq_true rfl) ?_
          refine gj_f (f' := gm_up f y (cMo 1 ad (nI (cn en 4096)) 0 r5 (nI ml.length))) rfl ?_
          have hW := rpm_cd hW 1 (nI (cn en 4096))
          generalize gm_up f y (cMo 1 ad (nI (cn en 4096)) 0 r5 (nI ml.length)) = f at hW ⊢
          refine gj_aload_n C dX3_move_123 rfl ?_
          refine gj_get C dX3_move_124 hW.1.1 rfl inX3 0 (by decide) w_329 rfl ?_
          refine gj_if_eqF (tgt := 132) C dX3_move_127 (by decide) (by decide) ?_
          refine gj_iconst (v := 0) C dX3_move_130 (by decide) ?_
          exact gj_iret C hr hlk dX3_move_131 (⟨_, rfl, Or.inr (Or.inl ⟨Or.inl (by have qc7 := bI_p0 c7; revert qc7; simp only [i_le, i_lt, i_eq, t_0, t_1, t_5, t_7, t_8, t_16383, t_16384, t_32768, t_1048576, vs, vl, vc, vn, ll, rF, rL, rMeet, rIn, rY, if_true, if_false, Bool.false_eq_true, ite_true, ite_false, reduceIte, wn, vr]; (try intros); omega), ⟨ad, ga, _, r5, hW⟩⟩)⟩)
    · refine gj_iload_n C dX3_move_10 rfl ?_
      refine gj_iconst (v := 1) C dX3_move_11 (by decide) ?_
      refine gj_ldc (v := 1048576) C dX3_move_12 w_393 ?_
      refine gj_cS (As := [.int rw, .int 1, .int 1048576]) (rest := []) (nc := 0) (ns := 0) C hV (k_within l D (tyl cI cN cZ cJ) f rw 1 1048576) dX3_move_14 rfl w_392 rfl w_390 w_2 w_391 hd_X3_within rfl ⟨Nat.le_of_ble_eq_true rfl, Nat.le_of_ble_eq_true rfl⟩ (Nat.le_of_ble_eq_true rfl) (by decide) (by decide) (fun v u hp10 => ?_)
      refine gj_rt (st' := [.int (bI (decide (wn rw 1 1048576)))]) hp10.1 hp10.2 rfl ?_
      refine gj_if_eq (tgt := 35) C dX3_move_17 (by decide) (fun c11 => ?_) (fun c11 => ?_)
      · refine gj_iconst (v := 0) C dX3_move_35 (by decide) ?_
        refine gj_istore (lw' := [some (.ref y), some (.int sh), some (.int rw), some (.int co), some (.int 0), none, none, none, none, none, none]) C dX3_move_36 (by decide) rfl rfl ?_
        refine gj_iload_n C dX3_move_38 rfl ?_
        refine gj_aload_n C dX3_move_39 rfl ?_
        refine gj_get C dX3_move_40 hW.1.1 rfl inX3 11 (by decide) w_340 rfl ?_
        refine gj_isub C dX3_move_43 ?_
        refine gj_istore (lw' := [some (.ref y), some (.int sh), some (.int rw), some (.int co), some (.int 0), some (.int (rw - r5.2.1)), none, none, none, none, none]) C dX3_move_44 (by decide) rfl rfl ?_
        refine gj_iload_n C dX3_move_46 rfl ?_
        refine gj_aload_n C dX3_move_47 rfl ?_
        refine gj_get C dX3_move_48 hW.1.1 rfl inX3 12 (by decide) w_341 rfl ?_
        refine gj_isub C dX3_move_51 ?_
        refine gj_istore (lw' := [some (.ref y), some (.int sh), some (.int rw), some (.int co), some (.int 0), some (.int (rw - r5.2.1)), some (.int (co - r5.2.2.1)), none, none, none, none]) C dX3_move_52 (by decide) rfl rfl ?_
        refine gj_aload_n C dX3_move_54 rfl ?_
        refine gj_get C dX3_move_55 hW.1.1 rfl inX3 13 (by decide) w_342 rfl ?_
        refine gj_iload C dX3_move_58 rfl ?_
        refine gj_iadd C dX3_move_60 ?_
        refine gj_ldc (v := 1048576) C dX3_move_61 w_393 ?_
        refine gj_icmp_gt (tgt := 83) C dX3_move_63 (by decide) (fun c12 => ?_) (fun c12 => ?_)
        · refine gj_iconst (v := 0) C dX3_move_83 (by decide) ?_
          refine gj_istore (lw' := [some (.ref y), some (.int sh), some (.int rw), some (.int co), some (.int 0), some (.int (rw - r5.2.1)), some (.int (co - r5.2.2.1)), some (.int 0), none, none, none]) C dX3_move_84 (by decide) rfl rfl ?_
          refine gj_aload_n C dX3_move_86 rfl ?_
          refine gj_iload C dX3_move_87 rfl ?_
          refine gj_if_eqT (tgt := 104) C dX3_move_89 (by decide) rfl ?_
          refine gj_iconst (v := 1) C dX3_move_104 (by decide) ?_
          refine gj_goto (tgt := 120) C dX3_move_105 (by decide) ?_
          refine gj_put C dX3_move_120 hW.1.1 rfl inX3 tyX3_ok nmX3 0 (by decide) w_329 rfl rfl rfl (Nat.le_of_ble_eq_true rfl) ?_
          refine gj_f (f' := gm_up f y (cMo 1 ad (nI (cn en 4096)) 0 r5 (nI ml.length))) rfl ?_
          have hW := rpm_cd hW 1 (nI (cn en 4096))
          generalize gm_up f y (cMo 1 ad (nI (cn en 4096)) 0 r5 (nI ml.length)) = f at hW ⊢
          refine gj_aload_n C dX3_move_123 rfl ?_
          refine gj_get C dX3_move_124 hW.1.1 rfl inX3 0 (by decide) w_329 rfl ?_
          refine gj_if_eqF (tgt := 132) C dX3_move_127 (by decide) (by decide) ?_
          refine gj_iconst (v := 0) C dX3_move_130 (by decide) ?_
          exact gj_iret C hr hlk dX3_move_131 (⟨_, rfl, Or.inr (Or.inl ⟨Or.inl (by have qc7 := bI_p1 c7; have qc11 := bI_p0 c11; revert qc7 qc11; simp only [i_le, i_lt, i_eq, t_0, t_1, t_5, t_7, t_8, t_16383, t_16384, t_32768, t_1048576, vs, vl, vc, vn, ll, rF, rL, rMeet, rIn, rY, if_true, if_false, Bool.false_eq_true, ite_true, ite_false, reduceIte, wn, vr]; (try intros); omega), ⟨ad, ga, _, r5, hW⟩⟩)⟩)
        · refine gj_aload_n C dX3_move_66 rfl ?_
          refine gj_get C dX3_move_67 hW.1.1 rfl inX3 14 (by decide) w_343 rfl ?_
          refine gj_iload C dX3_move_70 rfl ?_
          refine gj_iadd C dX3_move_72 ?_
          refine gj_sipush (v := 16384) C dX3_move_73 (by decide) ?_
          refine gj_icmp_gt (tgt := 83) C dX3_move_76 (by decide) (fun c13 => ?_) (fun c13 => ?_)
          · refine gj_iconst (v := 0) C dX3_move_83 (by decide) ?_
            refine gj_istore (lw' := [some (.ref y), some (.int sh), some (.int rw), some (.int co), some (.int 0), some (.int (rw - r5.2.1)), some (.int (co - r5.2.2.1)), some (.int 0), none, none, none]) C dX3_move_84 (by decide) rfl rfl ?_
            refine gj_aload_n C dX3_move_86 rfl ?_
            refine gj_iload C dX3_move_87 rfl ?_
            refine gj_if_eqT (tgt := 104) C dX3_move_89 (by decide) rfl ?_
            refine gj_iconst (v := 1) C dX3_move_104 (by decide) ?_
            refine gj_goto (tgt := 120) C dX3_move_105 (by decide) ?_
            refine gj_put C dX3_move_120 hW.1.1 rfl inX3 tyX3_ok nmX3 0 (by decide) w_329 rfl rfl rfl (Nat.le_of_ble_eq_true rfl) ?_
            refine gj_f (f' := gm_up f y (cMo 1 ad (nI (cn en 4096)) 0 r5 (nI ml.length))) rfl ?_
            have hW := rpm_cd hW 1 (nI (cn en 4096))
            generalize gm_up f y (cMo 1 ad (nI (cn en 4096)) 0 r5 (nI ml.length)) = f at hW ⊢
            refine gj_aload_n C dX3_move_123 rfl ?_
            refine gj_get C dX3_move_124 hW.1.1 rfl inX3 0 (by decide) w_329 rfl ?_
            refine gj_if_eqF (tgt := 132) C dX3_move_127 (by decide) (by decide) ?_
            refine gj_iconst (v := 0) C dX3_move_130 (by decide) ?_
            exact gj_iret C hr hlk dX3_move_131 (⟨_, rfl, Or.inr (Or.inl ⟨Or.inl (by have qc7 := bI_p1 c7; have qc11 := bI_p0 c11; revert qc7 qc11; simp only [i_le, i_lt, i_eq, t_0, t_1, t_5, t_7, t_8, t_16383, t_16384, t_32768, t_1048576, vs, vl, vc, vn, ll, rF, rL, rMeet, rIn, rY, if_true, if_false, Bool.false_eq_true, ite_true, ite_false, reduceIte, wn, vr]; (try intros); omega), ⟨ad, ga, _, r5, hW⟩⟩)⟩)
          · refine gj_iconst (v := 1) C dX3_move_79 (by decide) ?_
            refine gj_goto (tgt := 84) C dX3_move_80 (by decide) ?_
            refine gj_istore (lw' := [some (.ref y), some (.int sh), some (.int rw), some (.int co), some (.int 0), some (.int (rw - r5.2.1)), some (.int (co - r5.2.2.1)), some (.int 1), none, none, none]) C dX3_move_84 (by decide) rfl rfl ?_
            refine gj_aload_n C dX3_move_86 rfl ?_
            refine gj_iload C dX3_move_87 rfl ?_
            refine gj_if_eqT (tgt := 104) C dX3_move_89 (by decide) rfl ?_
            refine gj_iconst (v := 1) C dX3_move_104 (by decide) ?_
            refine gj_goto (tgt := 120) C dX3_move_105 (by decide) ?_
            refine gj_put C dX3_move_120 hW.1.1 rfl inX3 tyX3_ok nmX3 0 (by decide) w_329 rfl rfl rfl (Nat.le_of_ble_eq_true rfl) ?_
            refine gj_f (f' := gm_up f y (cMo 1 ad (nI (cn en 4096)) 0 r5 (nI ml.length))) rfl ?_
            have hW := rpm_cd hW 1 (nI (cn en 4096))
            generalize gm_up f y (cMo 1 ad (nI (cn en 4096)) 0 r5 (nI ml.length)) = f at hW ⊢
            refine gj_aload_n C dX3_move_123 rfl ?_
            refine gj_get C dX3_move_124 hW.1.1 rfl inX3 0 (by decide) w_329 rfl ?_
            refine gj_if_eqF (tgt := 132) C dX3_move_127 (by decide) (by decide) ?_
            refine gj_iconst (v := 0) C dX3_move_130 (by decide) ?_
            exact gj_iret C hr hlk dX3_move_131 (⟨_, rfl, Or.inr (Or.inl ⟨Or.inl (by have qc7 := bI_p1 c7; have qc11 := bI_p0 c11; revert qc7 qc11; simp only [i_le, i_lt, i_eq, t_0, t_1, t_5, t_7, t_8, t_16383, t_16384, t_32768, t_1048576, vs, vl, vc, vn, ll, rF, rL, rMeet, rIn, rY, if_true, if_false, Bool.false_eq_true, ite_true, ite_false, reduceIte, wn, vr]; (try intros); omega), ⟨ad, ga, _, r5, hW⟩⟩)⟩)
      · refine gj_iload_n C dX3_move_20 rfl ?_
        refine gj_iconst (v := 1) C dX3_move_21 (by decide) ?_
        refine gj_sipush (v := 16384) C dX3_move_22 (by decide) ?_
        refine gj_cS (As := [.int co, .int 1, .int 16384]) (rest := []) (nc := 0) (ns := 0) C hV (k_within l D (tyl cI cN cZ cJ) f co 1 16384) dX3_move_25 rfl w_392 rfl w_390 w_2 w_391 hd_X3_within rfl ⟨Nat.le_of_ble_eq_true rfl, Nat.le_of_ble_eq_true rfl⟩ (Nat.le_of_ble_eq_true rfl) (by decide) (by decide) (fun v u hp14 => ?_)
        refine gj_rt (st' := [.int (bI (decide (wn co 1 16384)))]) hp14.1 hp14.2 rfl ?_
        refine gj_if_eq (tgt := 35) C dX3_move_28 (by decide) (fun c15 => ?_) (fun c15 => ?_)
        · refine gj_iconst (v := 0) C dX3_move_35 (by decide) ?_
          refine gj_istore (lw' := [some (.ref y), some (.int sh), some (.int rw), some (.int co), some (.int 0), none, none, none, none, none, none]) C dX3_move_36 (by decide) rfl rfl ?_
          refine gj_iload_n C dX3_move_38 rfl ?_
          refine gj_aload_n C dX3_move_39 rfl ?_
          refine gj_get C dX3_move_40 hW.1.1 rfl inX3 11 (by decide) w_340 rfl ?_
          refine gj_isub C dX3_move_43 ?_
          refine gj_istore (lw' := [some (.ref y), some (.int sh), some (.int rw), some (.int co), some (.int 0), some (.int (rw - r5.2.1)), none, none, none, none, none]) C dX3_move_44 (by decide) rfl rfl ?_
          refine gj_iload_n C dX3_move_46 rfl ?_
          refine gj_aload_n C dX3_move_47 rfl ?_
          refine gj_get C dX3_move_48 hW.1.1 rfl inX3 12 (by decide) w_341 rfl ?_
          refine gj_isub C dX3_move_51 ?_
          refine gj_istore (lw' := [some (.ref y), some (.int sh), some (.int rw), some (.int co), some (.int 0), some (.int (rw - r5.2.1)), some (.int (co - r5.2.2.1)), none, none, none, none]) C dX3_move_52 (by decide) rfl rfl ?_
          refine gj_aload_n C dX3_move_54 rfl ?_
          refine gj_get C dX3_move_55 hW.1.1 rfl inX3 13 (by decide) w_342 rfl ?_
          refine gj_iload C dX3_move_58 rfl ?_
          refine gj_iadd C dX3_move_60 ?_
          refine gj_ldc (v := 1048576) C dX3_move_61 w_393 ?_
          refine gj_icmp_gt (tgt := 83) C dX3_move_63 (by decide) (fun c16 => ?_) (fun c16 => ?_)
          · refine gj_iconst (v := 0) C dX3_move_83 (by decide) ?_
            refine gj_istore (lw' := [some (.ref y), some (.int sh), some (.int rw), some (.int co), some (.int 0), some (.int (rw - r5.2.1)), some (.int (co - r5.2.2.1)), some (.int 0), none, none, none]) C dX3_move_84 (by decide) rfl rfl ?_
            refine gj_aload_n C dX3_move_86 rfl ?_
            refine gj_iload C dX3_move_87 rfl ?_
            refine gj_if_eqT (tgt := 104) C dX3_move_89 (by decide) rfl ?_
            refine gj_iconst (v := 1) C dX3_move_104 (by decide) ?_
            refine gj_goto (tgt := 120) C dX3_move_105 (by decide) ?_
            refine gj_put C dX3_move_120 hW.1.1 rfl inX3 tyX3_ok nmX3 0 (by decide) w_329 rfl rfl rfl (Nat.le_of_ble_eq_true rfl) ?_
            refine gj_f (f' := gm_up f y (cMo 1 ad (nI (cn en 4096)) 0 r5 (nI ml.length))) rfl ?_
            have hW := rpm_cd hW 1 (nI (cn en 4096))
            generalize gm_up f y (cMo 1 ad (nI (cn en 4096)) 0 r5 (nI ml.length)) = f at hW ⊢
            refine gj_aload_n C dX3_move_123 rfl ?_
            refine gj_get C dX3_move_124 hW.1.1 rfl inX3 0 (by decide) w_329 rfl ?_
            refine gj_if_eqF (tgt := 132) C dX3_move_127 (by decide) (by decide) ?_
            refine gj_iconst (v := 0) C dX3_move_130 (by decide) ?_
            exact gj_iret C hr hlk dX3_move_131 (⟨_, rfl, Or.inr (Or.inl ⟨Or.inl (by have qc7 := bI_p1 c7; have qc11 := bI_p1 c11; have qc15 := bI_p0 c15; revert qc7 qc11 qc15; simp only [i_le, i_lt, i_eq, t_0, t_1, t_5, t_7, t_8, t_16383, t_16384, t_32768, t_1048576, vs, vl, vc, vn, ll, rF, rL, rMeet, rIn, rY, if_true, if_false, Bool.false_eq_true, ite_true, ite_false, reduceIte, wn, vr]; (try intros); omega), ⟨ad, ga, _, r5, hW⟩⟩)⟩)
          · refine gj_aload_n C dX3_move_66 rfl ?_
            refine gj_get C dX3_move_67 hW.1.1 rfl inX3 14 (by decide) w_343 rfl ?_
            refine gj_iload C dX3_move_70 rfl ?_
            refine gj_iadd C dX3_move_72 ?_
            refine gj_sipush (v := 16384) C dX3_move_73 (by decide) ?_
            refine gj_icmp_gt (tgt := 83) C dX3_move_76 (by decide) (fun c17 => ?_) (fun c17 => ?_)
            · refine gj_iconst (v := 0) C dX3_move_83 (by decide) ?_
              refine gj_istore (lw' := [some (.ref y), some (.int sh), some (.int rw), some (.int co), some (.int 0), some (.int (rw - r5.2.1)), some (.int (co - r5.2.2.1)), some (.int 0), none, none, none]) C dX3_move_84 (by decide) rfl rfl ?_
              refine gj_aload_n C dX3_move_86 rfl ?_
              refine gj_iload C dX3_move_87 rfl ?_
              refine gj_if_eqT (tgt := 104) C dX3_move_89 (by decide) rfl ?_
              refine gj_iconst (v := 1) C dX3_move_104 (by decide) ?_
              refine gj_goto (tgt := 120) C dX3_move_105 (by decide) ?_
              refine gj_put C dX3_move_120 hW.1.1 rfl inX3 tyX3_ok nmX3 0 (by decide) w_329 rfl rfl rfl (Nat.le_of_ble_eq_true rfl) ?_
              refine gj_f (f' := gm_up f y (cMo 1 ad (nI (cn en 4096)) 0 r5 (nI ml.length))) rfl ?_
              have hW := rpm_cd hW 1 (nI (cn en 4096))
              generalize gm_up f y (cMo 1 ad (nI (cn en 4096)) 0 r5 (nI ml.length)) = f at hW ⊢
              refine gj_aload_n C dX3_move_123 rfl ?_
              refine gj_get C dX3_move_124 hW.1.1 rfl inX3 0 (by decide) w_329 rfl ?_
              refine gj_if_eqF (tgt := 132) C dX3_move_127 (by decide) (by decide) ?_
              refine gj_iconst (v := 0) C dX3_move_130 (by decide) ?_
              exact gj_iret C hr hlk dX3_move_131 (⟨_, rfl, Or.inr (Or.inl ⟨Or.inl (by have qc7 := bI_p1 c7; have qc11 := bI_p1 c11; have qc15 := bI_p0 c15; revert qc7 qc11 qc15; simp only [i_le, i_lt, i_eq, t_0, t_1, t_5, t_7, t_8, t_16383, t_16384, t_32768, t_1048576, vs, vl, vc, vn, ll, rF, rL, rMeet, rIn, rY, if_true, if_false, Bool.false_eq_true, ite_true, ite_false, reduceIte, wn, vr]; (try intros); omega), ⟨ad, ga, _, r5, hW⟩⟩)⟩)
            · refine gj_iconst (v := 1) C dX3_move_79 (by decide) ?_
              refine gj_goto (tgt := 84) C dX3_move_80 (by decide) ?_
              refine gj_istore (lw' := [some (.ref y), some (.int sh), some (.int rw), some (.int co), some (.int 0), some (.int (rw - r5.2.1)), some (.int (co - r5.2.2.1)), some (.int 1), none, none, none]) C dX3_move_84 (by decide) rfl rfl ?_
              refine gj_aload_n C dX3_move_86 rfl ?_
              refine gj_iload C dX3_move_87 rfl ?_
              refine gj_if_eqT (tgt := 104) C dX3_move_89 (by decide) rfl ?_
              refine gj_iconst (v := 1) C dX3_move_104 (by decide) ?_
              refine gj_goto (tgt := 120) C dX3_move_105 (by decide) ?_
              refine gj_put C dX3_move_120 hW.1.1 rfl inX3 tyX3_ok nmX3 0 (by decide) w_329 rfl rfl rfl (Nat.le_of_ble_eq_true rfl) ?_
              refine gj_f (f' := gm_up f y (cMo 1 ad (nI (cn en 4096)) 0 r5 (nI ml.length))) rfl ?_
              have hW := rpm_cd hW 1 (nI (cn en 4096))
              generalize gm_up f y (cMo 1 ad (nI (cn en 4096)) 0 r5 (nI ml.length)) = f at hW ⊢
              refine gj_aload_n C dX3_move_123 rfl ?_
              refine gj_get C dX3_move_124 hW.1.1 rfl inX3 0 (by decide) w_329 rfl ?_
              refine gj_if_eqF (tgt := 132) C dX3_move_127 (by decide) (by decide) ?_
              refine gj_iconst (v := 0) C dX3_move_130 (by decide) ?_
              exact gj_iret C hr hlk dX3_move_131 (⟨_, rfl, Or.inr (Or.inl ⟨Or.inl (by have qc7 := bI_p1 c7; have qc11 := bI_p1 c11; have qc15 := bI_p0 c15; revert qc7 qc11 qc15; simp only [i_le, i_lt, i_eq, t_0, t_1, t_5, t_7, t_8, t_16383, t_16384, t_32768, t_1048576, vs, vl, vc, vn, ll, rF, rL, rMeet, rIn, rY, if_true, if_false, Bool.false_eq_true, ite_true, ite_false, reduceIte, wn, vr]; (try intros); omega), ⟨ad, ga, _, r5, hW⟩⟩)⟩)
        · refine gj_iconst (v := 1) C dX3_move_31 (by decide) ?_
          refine gj_goto (tgt := 36) C dX3_move_32 (by decide) ?_
          refine gj_istore (lw' := [some (.ref y), some (.int sh), some (.int rw), some (.int co), some (.int 1), none, none, none, none, none, none]) C dX3_move_36 (by decide) rfl rfl ?_
          refine gj_iload_n C dX3_move_38 rfl ?_
          refine gj_aload_n C dX3_move_39 rfl ?_
          refine gj_get C dX3_move_40 hW.1.1 rfl inX3 11 (by decide) w_340 rfl ?_
          refine gj_isub C dX3_move_43 ?_
          refine gj_istore (lw' := [some (.ref y), some (.int sh), some (.int rw), some (.int co), some (.int 1), some (.int (rw - r5.2.1)), none, none, none, none, none]) C dX3_move_44 (by decide) rfl rfl ?_
          refine gj_iload_n C dX3_move_46 rfl ?_
          refine gj_aload_n C dX3_move_47 rfl ?_
          refine gj_get C dX3_move_48 hW.1.1 rfl inX3 12 (by decide) w_341 rfl ?_
          refine gj_isub C dX3_move_51 ?_
          refine gj_istore (lw' := [some (.ref y), some (.int sh), some (.int rw), some (.int co), some (.int 1), some (.int (rw - r5.2.1)), some (.int (co - r5.2.2.1)), none, none, none, none]) C dX3_move_52 (by decide) rfl rfl ?_
          refine gj_aload_n C dX3_move_54 rfl ?_
          refine gj_get C dX3_move_55 hW.1.1 rfl inX3 13 (by decide) w_342 rfl ?_
          refine gj_iload C dX3_move_58 rfl ?_
          refine gj_iadd C dX3_move_60 ?_
          refine gj_ldc (v := 1048576) C dX3_move_61 w_393 ?_
          refine gj_icmp_gt (tgt := 83) C dX3_move_63 (by decide) (fun c18 => ?_) (fun c18 => ?_)
          · refine gj_iconst (v := 0) C dX3_move_83 (by decide) ?_
            refine gj_istore (lw' := [some (.ref y), some (.int sh), some (.int rw), some (.int co), some (.int 1), some (.int (rw - r5.2.1)), some (.int (co - r5.2.2.1)), some (.int 0), none, none, none]) C dX3_move_84 (by decide) rfl rfl ?_
            refine gj_aload_n C dX3_move_86 rfl ?_
            refine gj_iload C dX3_move_87 rfl ?_
            refine gj_if_eqF (tgt := 104) C dX3_move_89 (by decide) (by decide) ?_
            refine gj_aload_n C dX3_move_92 rfl ?_
            refine gj_get C dX3_move_93 hW.1.1 rfl inX3 9 (by decide) w_338 rfl ?_
            refine gj_if_eqT (tgt := 108) C dX3_move_96 (by decide) rfl ?_
            refine gj_aload_n C dX3_move_108 rfl ?_
            refine gj_get C dX3_move_109 hW.1.1 rfl inX3 9 (by decide) w_338 rfl ?_
            refine gj_if_neF (tgt := 119) C dX3_move_112 (by decide) rfl ?_
            refine gj_iconst (v := 2) C dX3_move_115 (by decide) ?_
            refine gj_goto (tgt := 120) C dX3_move_116 (by decide) ?_
            refine gj_put C dX3_move_120 hW.1.1 rfl inX3 tyX3_ok nmX3 0 (by decide) w_329 rfl rfl rfl (Nat.le_of_ble_eq_true rfl) ?_
            refine gj_f (f' := gm_up f y (cMo 2 ad (nI (cn en 4096)) 0 r5 (nI ml.length))) rfl ?_
            have hW := rpm_cd hW 2 (nI (cn en 4096))
            generalize gm_up f y (cMo 2 ad (nI (cn en 4096)) 0 r5 (nI ml.length)) = f at hW ⊢
            refine gj_aload_n C dX3_move_123 rfl ?_
            refine gj_get C dX3_move_124 hW.1.1 rfl inX3 0 (by decide) w_329 rfl ?_
            refine gj_if_eqF (tgt := 132) C dX3_move_127 (by decide) (by decide) ?_
            refine gj_iconst (v := 0) C dX3_move_130 (by decide) ?_
            exact gj_iret C hr hlk dX3_move_131 (⟨_, rfl, Or.inr (Or.inr ⟨(by have qc7 := bI_p1 c7; have qc11 := bI_p1 c11; have qc15 := bI_p1 c15; revert qc7 qc11 qc15; simp only [i_le, i_lt, i_eq, t_0, t_1, t_5, t_7, t_8, t_16383, t_16384, t_32768, t_1048576, vs, vl, vc, vn, ll, rF, rL, rMeet, rIn, rY, if_true, if_false, Bool.false_eq_true, ite_true, ite_false, reduceIte, wn, vr]; (try intros); omega), rfl, ⟨ad, ga, _, r5, hW⟩⟩)⟩)
          · refine gj_aload_n C dX3_move_66 rfl ?_
            refine gj_get C dX3_move_67 hW.1.1 rfl inX3 14 (by decide) w_343 rfl ?_
            refine gj_iload C dX3_move_70 rfl ?_
            refine gj_iadd C dX3_move_72 ?_
            refine gj_sipush (v := 16384) C dX3_move_73 (by decide) ?_
            refine gj_icmp_gt (tgt := 83) C dX3_move_76 (by decide) (fun c19 => ?_) (fun c19 => ?_)
            · refine gj_iconst (v := 0) C dX3_move_83 (by decide) ?_
              refine gj_istore (lw' := [some (.ref y), some (.int sh), some (.int rw), some (.int co), some (.int 1), some (.int (rw - r5.2.1)), some (.int (co - r5.2.2.1)), some (.int 0), none, none, none]) C dX3_move_84 (by decide) rfl rfl ?_
              refine gj_aload_n C dX3_move_86 rfl ?_
              refine gj_iload C dX3_move_87 rfl ?_
              refine gj_if_eqF (tgt := 104) C dX3_move_89 (by decide) (by decide) ?_
              refine gj_aload_n C dX3_move_92 rfl ?_
              refine gj_get C dX3_move_93 hW.1.1 rfl inX3 9 (by decide) w_338 rfl ?_
              refine gj_if_eqT (tgt := 108) C dX3_move_96 (by decide) rfl ?_
              refine gj_aload_n C dX3_move_108 rfl ?_
              refine gj_get C dX3_move_109 hW.1.1 rfl inX3 9 (by decide) w_338 rfl ?_
              refine gj_if_neF (tgt := 119) C dX3_move_112 (by decide) rfl ?_
              refine gj_iconst (v := 2) C dX3_move_115 (by decide) ?_
              refine gj_goto (tgt := 120) C dX3_move_116 (by decide) ?_
              refine gj_put C dX3_move_120 hW.1.1 rfl inX3 tyX3_ok nmX3 0 (by decide) w_329 rfl rfl rfl (Nat.le_of_ble_eq_true rfl) ?_
              refine gj_f (f' := gm_up f y (cMo 2 ad (nI (cn en 4096)) 0 r5 (nI ml.length))) rfl ?_
              have hW := rpm_cd hW 2 (nI (cn en 4096))
              generalize gm_up f y (cMo 2 ad (nI (cn en 4096)) 0 r5 (nI ml.length)) = f at hW ⊢
              refine gj_aload_n C dX3_move_123 rfl ?_
              refine gj_get C dX3_move_124 hW.1.1 rfl inX3 0 (by decide) w_329 rfl ?_
              refine gj_if_eqF (tgt := 132) C dX3_move_127 (by decide) (by decide) ?_
              refine gj_iconst (v := 0) C dX3_move_130 (by decide) ?_
              exact gj_iret C hr hlk dX3_move_131 (⟨_, rfl, Or.inr (Or.inr ⟨(by have qc7 := bI_p1 c7; have qc11 := bI_p1 c11; have qc15 := bI_p1 c15; revert qc7 qc11 qc15; simp only [i_le, i_lt, i_eq, t_0, t_1, t_5, t_7, t_8, t_16383, t_16384, t_32768, t_1048576, vs, vl, vc, vn, ll, rF, rL, rMeet, rIn, rY, if_true, if_false, Bool.false_eq_true, ite_true, ite_false, reduceIte, wn, vr]; (try intros); omega), rfl, ⟨ad, ga, _, r5, hW⟩⟩)⟩)
            · refine gj_iconst (v := 1) C dX3_move_79 (by decide) ?_
              refine gj_goto (tgt := 84) C dX3_move_80 (by decide) ?_
              refine gj_istore (lw' := [some (.ref y), some (.int sh), some (.int rw), some (.int co), some (.int 1), some (.int (rw - r5.2.1)), some (.int (co - r5.2.2.1)), some (.int 1), none, none, none]) C dX3_move_84 (by decide) rfl rfl ?_
              refine gj_aload_n C dX3_move_86 rfl ?_
              refine gj_iload C dX3_move_87 rfl ?_
              refine gj_if_eqF (tgt := 104) C dX3_move_89 (by decide) (by decide) ?_
              refine gj_aload_n C dX3_move_92 rfl ?_
              refine gj_get C dX3_move_93 hW.1.1 rfl inX3 9 (by decide) w_338 rfl ?_
              refine gj_if_eqT (tgt := 108) C dX3_move_96 (by decide) rfl ?_
              refine gj_aload_n C dX3_move_108 rfl ?_
              refine gj_get C dX3_move_109 hW.1.1 rfl inX3 9 (by decide) w_338 rfl ?_
              refine gj_if_neF (tgt := 119) C dX3_move_112 (by decide) rfl ?_
              refine gj_iconst (v := 2) C dX3_move_115 (by decide) ?_
              refine gj_goto (tgt := 120) C dX3_move_116 (by decide) ?_
              refine gj_put C dX3_move_120 hW.1.1 rfl inX3 tyX3_ok nmX3 0 (by decide) w_329 rfl rfl rfl (Nat.le_of_ble_eq_true rfl) ?_
              refine gj_f (f' := gm_up f y (cMo 2 ad (nI (cn en 4096)) 0 r5 (nI ml.length))) rfl ?_
              have hW := rpm_cd hW 2 (nI (cn en 4096))
              generalize gm_up f y (cMo 2 ad (nI (cn en 4096)) 0 r5 (nI ml.length)) = f at hW ⊢
              refine gj_aload_n C dX3_move_123 rfl ?_
              refine gj_get C dX3_move_124 hW.1.1 rfl inX3 0 (by decide) w_329 rfl ?_
              refine gj_if_eqF (tgt := 132) C dX3_move_127 (by decide) (by decide) ?_
              refine gj_iconst (v := 0) C dX3_move_130 (by decide) ?_
              exact gj_iret C hr hlk dX3_move_131 (⟨_, rfl, Or.inr (Or.inr ⟨(by have qc7 := bI_p1 c7; have qc11 := bI_p1 c11; have qc15 := bI_p1 c15; revert qc7 qc11 qc15; simp only [i_le, i_lt, i_eq, t_0, t_1, t_5, t_7, t_8, t_16383, t_16384, t_32768, t_1048576, vs, vl, vc, vn, ll, rF, rL, rMeet, rIn, rY, if_true, if_false, Bool.false_eq_true, ite_true, ite_false, reduceIte, wn, vr]; (try intros); omega), rfl, ⟨ad, ga, _, r5, hW⟩⟩)⟩)
  | some r =>
    obtain ⟨hq, hr5⟩ : isR = 1 ∧ r5 = r := hW.2.2.1
    subst hq
    subst hr5
    have loop : vc sh rw co → vc sh (rM sh (rw - r5.2.1) (co - r5.2.2.1) r5).2.2.2.1 (rM sh (rw - r5.2.1) (co - r5.2.2.1) r5).2.2.2.2 → ∀ (d i : Nat) (f : gm), i + d = 4096 → RpM cI cZ f y 0 (some r5) (mapI (phM r5 (rM sh (rw - r5.2.1) (co - r5.2.2.1) r5)) en i) ml → gj p l e (rmk 1 0 0) s m args below meth c D vwCl A 11 (MQ below (gk_Q (fun v u => ∃ b, v = some (.int b) ∧ ((∃ r9, (some r5) = some r9 ∧ vc sh rw co ∧ vc sh (rM sh (rw - r9.2.1) (co - r9.2.2.1) r9).2.2.2.1 (rM sh (rw - r9.2.1) (co - r9.2.2.1) r9).2.2.2.2 ∧ b = nI (cbE (chM r9 (rM sh (rw - r9.2.1) (co - r9.2.2.1) r9)) en 4096) ∧ RpM cI cZ u y 0 (some r5) (mapE (phM r9 (rM sh (rw - r9.2.1) (co - r9.2.2.1) r9)) en) ml) ∨ ((¬ vc sh rw co ∨ (vc sh rw co ∧ ∃ r9, (some r5) = some r9 ∧ ¬ vc sh (rM sh (rw - r9.2.1) (co - r9.2.2.1) r9).2.2.2.1 (rM sh (rw - r9.2.1) (co - r9.2.2.1) r9).2.2.2.2)) ∧ RpM cI cZ u y 1 (some r5) en ml) ∨ (vc sh rw co ∧ (some r5) = none ∧ RpM cI cZ u y 2 (some r5) en ml))) D A) args s (rmk 1 0 0).cells (rmk 1 0 0).slots A) f 0 0 138 [some (.ref y), some (.int sh), some (.int rw), some (.int co), some (.int 1), some (.int (rw - r5.2.1)), some (.int (co - r5.2.2.1)), some (.int 1), some (.int (nI (cbE (chM r5 (rM sh (rw - r5.2.1) (co - r5.2.2.1) r5)) en i))), some (.int (nI i)), none] [] := by
      intro hvc hli d
      induction d with
      | zero =>
        intro i f hid hR
        rw [show mapI (phM r5 (rM sh (rw - r5.2.1) (co - r5.2.2.1) r5)) en i = mapI (phM r5 (rM sh (rw - r5.2.1) (co - r5.2.2.1) r5)) en 4096 by rw [show i = 4096 by omega]] at hR
        obtain ⟨ad, ga, isR, r6, hW⟩ := hR
        obtain ⟨hq, hr6⟩ : isR = 1 ∧ r6 = r5 := hW.2.2.1
        subst hq
        have hr6 := hr6.symm
        subst hr6
        refine gj_iload C dX3_move_138 rfl ?_
        refine gj_sipush (v := 4096) C dX3_move_140 (by decide) ?_
        refine gj_icmp_geT (tgt := 305) C dX3_move_143 (by decide) (by rw [show i = 4096 by omega]; decide) ?_
        refine gj_iload C dX3_move_305 rfl ?_
        exact gj_iret C hr hlk dX3_move_307 (⟨_, rfl, Or.inl ⟨r5, rfl, hvc, hli, by rw [show i = 4096 by omega], by rw [← mapI_end (φ := (phM r5 (rM sh (rw - r5.2.1) (co - r5.2.2.1) r5))) hd]; exact ⟨ad, ga, _, r5, hW⟩⟩⟩)
      | succ d ih =>
        intro i f hid hR
        have hj : i < 4096 := by omega
        obtain ⟨ad, ga, isR, r6, hW⟩ := hR
        obtain ⟨hq, hr6⟩ : isR = 1 ∧ r6 = r5 := hW.2.2.1
        subst hq
        have hr6 := hr6.symm
        subst hr6
        cases hei : en i with
        | none =>
          have g0 := rpm_no hW hj (mapI_at.trans hei)
          refine gj_iload C dX3_move_138 rfl ?_
          refine gj_sipush (v := 4096) C dX3_move_140 (by decide) ?_
          refine gj_icmp_geF (tgt := 305) C dX3_move_143 (by decide) (nI_ge hj (by decide)) ?_
          refine gj_aload_n C dX3_move_146 rfl ?_
          refine gj_iload C dX3_move_147 rfl ?_
          refine gj_aload_n C dX3_move_149 rfl ?_
          refine gj_get C dX3_move_150 hW.1.1 rfl inX3 10 (by decide) w_339 rfl ?_
          refine gj_aload_n C dX3_move_153 rfl ?_
          refine gj_get C dX3_move_154 hW.1.1 rfl inX3 11 (by decide) w_340 rfl ?_
          refine gj_aload_n C dX3_move_157 rfl ?_
          refine gj_get C dX3_move_158 hW.1.1 rfl inX3 12 (by decide) w_341 rfl ?_
          refine gj_aload_n C dX3_move_161 rfl ?_
          refine gj_get C dX3_move_162 hW.1.1 rfl inX3 13 (by decide) w_342 rfl ?_
          refine gj_aload_n C dX3_move_165 rfl ?_
          refine gj_get C dX3_move_166 hW.1.1 rfl inX3 14 (by decide) w_343 rfl ?_
          refine gj_cV (As := [.int (nI i), .int r5.1, .int r5.2.1, .int r5.2.2.1, .int r5.2.2.2.1, .int r5.2.2.2.2]) (rest := []) (nc := 0) (ns := 0) C hV (k_MisIn l D cI cN cZ cJ f y _ _ _ ml ad ga _ r5 _ i r5.1 r5.2.1 r5.2.2.1 r5.2.2.2.1 r5.2.2.2.2 hW hj) dX3_move_169 rfl w_480 rfl w_477 w_2 w_479 ws_25 hd_X3_isIn rfl hW.1.1 rfl ⟨Nat.le_of_ble_eq_true rfl, Nat.le_of_ble_eq_true rfl⟩ (Nat.le_of_ble_eq_true rfl) (by decide) (by decide) (fun v u hp => ?_)
          refine gj_rt (st' := [.int (bI (inb _ (r5.1, r5.2.1, r5.2.2.1, r5.2.2.2.1, r5.2.2.2.2) i))]) hp.1 hp.2 rfl ?_
          refine gj_st (st' := [.int 0]) (by rw [inb_n (mapI_at.trans hei)] <;> rfl) ?_
          refine gj_istore (lw' := [some (.ref y), some (.int sh), some (.int rw), some (.int co), some (.int 1), some (.int (rw - r5.2.1)), some (.int (co - r5.2.2.1)), some (.int 1), some (.int (nI (cbE (chM r5 (rM sh (rw - r5.2.1) (co - r5.2.2.1) r5)) en i))), some (.int (nI i)), some (.int 0)]) C dX3_move_172 (by decide) rfl rfl ?_
          refine gj_iload C dX3_move_174 rfl ?_
          refine gj_if_neF (tgt := 214) C dX3_move_176 (by decide) rfl ?_
          refine gj_aload_n C dX3_move_179 rfl ?_
          refine gj_iload C dX3_move_180 rfl ?_
          refine gj_iload_n C dX3_move_182 rfl ?_
          refine gj_iload_n C dX3_move_183 rfl ?_
          refine gj_iload_n C dX3_move_184 rfl ?_
          refine gj_aload_n C dX3_move_185 rfl ?_
          refine gj_get C dX3_move_186 hW.1.1 rfl inX3 13 (by decide) w_342 rfl ?_
          refine gj_iload C dX3_move_189 rfl ?_
          refine gj_iadd C dX3_move_191 ?_
          refine gj_aload_n C dX3_move_192 rfl ?_
          refine gj_get C dX3_move_193 hW.1.1 rfl inX3 14 (by decide) w_343 rfl ?_
          refine gj_iload C dX3_move_196 rfl ?_
          refine gj_iadd C dX3_move_198 ?_
          refine gj_cV (As := [.int (nI i), .int sh, .int rw, .int co, .int (r5.2.2.2.1 + (rw - r5.2.1)), .int (r5.2.2.2.2 + (co - r5.2.2.1))]) (rest := []) (nc := 0) (ns := 0) C hV (k_MisIn l D cI cN cZ cJ f y _ _ _ ml ad ga _ r5 _ i sh rw co (r5.2.2.2.1 + (rw - r5.2.1)) (r5.2.2.2.2 + (co - r5.2.2.1)) hW hj) dX3_move_199 rfl w_480 rfl w_477 w_2 w_479 ws_25 hd_X3_isIn rfl hW.1.1 rfl ⟨Nat.le_of_ble_eq_true rfl, Nat.le_of_ble_eq_true rfl⟩ (Nat.le_of_ble_eq_true rfl) (by decide) (by decide) (fun v u hp => ?_)
          refine gj_rt (st' := [.int (bI (inb _ (sh, rw, co, (r5.2.2.2.1 + (rw - r5.2.1)), (r5.2.2.2.2 + (co - r5.2.2.1))) i))]) hp.1 hp.2 rfl ?_
          refine gj_st (st' := [.int 0]) (by rw [inb_n (mapI_at.trans hei)] <;> rfl) ?_
          refine gj_if_eqT (tgt := 214) C dX3_move_202 (by decide) rfl ?_
          refine gj_iload C dX3_move_214 rfl ?_
          refine gj_if_eqT (tgt := 299) C dX3_move_216 (by decide) rfl ?_
          refine gj_iinc (v := (nI (i + 1))) (lw' := [some (.ref y), some (.int sh), some (.int rw), some (.int co), some (.int 1), some (.int (rw - r5.2.1)), some (.int (co - r5.2.2.1)), some (.int 1), some (.int (nI (cbE (chM r5 (rM sh (rw - r5.2.1) (co - r5.2.2.1) r5)) en i))), some (.int (nI (i + 1))), some (.int 0)]) C dX3_move_299 rfl (nI_1 i) (by decide) rfl rfl ?_
          refine gj_goto (tgt := 138) C dX3_move_302 (by decide) ?_
          refine gj_un 10 (lw' := [some (.ref y), some (.int sh), some (.int rw), some (.int co), some (.int 1), some (.int (rw - r5.2.1)), some (.int (co - r5.2.2.1)), some (.int 1), some (.int (nI (cbE (chM r5 (rM sh (rw - r5.2.1) (co - r5.2.2.1) r5)) en i))), some (.int (nI (i + 1))), none]) rfl ?_
          have h9 := ih (i + 1) f (by omega) (by rw [mapI_n hei]; exact ⟨ad, ga, _, r5, hW⟩)
          rw [cb_n hei] at h9
          exact h9
        | some e0 =>
          obtain ⟨g0, g1, g2, g3, g4, g5, g6⟩ := rpm_at hW hj (mapI_at.trans hei)
          refine gj_iload C dX3_move_138 rfl ?_
          refine gj_sipush (v := 4096) C dX3_move_140 (by decide) ?_
          refine gj_icmp_geF (tgt := 305) C dX3_move_143 (by decide) (nI_ge hj (by decide)) ?_
          refine gj_aload_n C dX3_move_146 rfl ?_
          refine gj_iload C dX3_move_147 rfl ?_
          refine gj_aload_n C dX3_move_149 rfl ?_
          refine gj_get C dX3_move_150 hW.1.1 rfl inX3 10 (by decide) w_339 rfl ?_
          refine gj_aload_n C dX3_move_153 rfl ?_
          refine gj_get C dX3_move_154 hW.1.1 rfl inX3 11 (by decide) w_340 rfl ?_
          refine gj_aload_n C dX3_move_157 rfl ?_
          refine gj_get C dX3_move_158 hW.1.1 rfl inX3 12 (by decide) w_341 rfl ?_
          refine gj_aload_n C dX3_move_161 rfl ?_
          refine gj_get C dX3_move_162 hW.1.1 rfl inX3 13 (by decide) w_342 rfl ?_
          refine gj_aload_n C dX3_move_165 rfl ?_
          refine gj_get C dX3_move_166 hW.1.1 rfl inX3 14 (by decide) w_343 rfl ?_
          refine gj_cV (As := [.int (nI i), .int r5.1, .int r5.2.1, .int r5.2.2.1, .int r5.2.2.2.1, .int r5.2.2.2.2]) (rest := []) (nc := 0) (ns := 0) C hV (k_MisIn l D cI cN cZ cJ f y _ _ _ ml ad ga _ r5 _ i r5.1 r5.2.1 r5.2.2.1 r5.2.2.2.1 r5.2.2.2.2 hW hj) dX3_move_169 rfl w_480 rfl w_477 w_2 w_479 ws_25 hd_X3_isIn rfl hW.1.1 rfl ⟨Nat.le_of_ble_eq_true rfl, Nat.le_of_ble_eq_true rfl⟩ (Nat.le_of_ble_eq_true rfl) (by decide) (by decide) (fun v u hp => ?_)
          refine gj_rt (st' := [.int (bI (inb _ (r5.1, r5.2.1, r5.2.2.1, r5.2.2.2.1, r5.2.2.2.2) i))]) hp.1 hp.2 rfl ?_
          refine gj_st (st' := [.int (bI (decide (rIn e0.1 r5)))]) (by rw [inb_s (mapI_at.trans hei)]) ?_
          refine gj_istore (lw' := [some (.ref y), some (.int sh), some (.int rw), some (.int co), some (.int 1), some (.int (rw - r5.2.1)), some (.int (co - r5.2.2.1)), some (.int 1), some (.int (nI (cbE (chM r5 (rM sh (rw - r5.2.1) (co - r5.2.2.1) r5)) en i))), some (.int (nI i)), some (.int (bI (decide (rIn e0.1 r5))))]) C dX3_move_172 (by decide) rfl rfl ?_
          refine gj_iload C dX3_move_174 rfl ?_
          refine gj_if_ne (tgt := 214) C dX3_move_176 (by decide) (fun c1 => ?_) (fun c1 => ?_)
          · refine gj_iload C dX3_move_214 rfl ?_
            refine gj_if_eqF (tgt := 299) C dX3_move_216 (by decide) c1 ?_
            refine gj_iload_n C dX3_move_219 rfl ?_
            refine gj_aload_n C dX3_move_220 rfl ?_
            refine gj_get C dX3_move_221 hW.1.1 rfl inX3 10 (by decide) w_339 rfl ?_
            refine gj_icmp_ne (tgt := 240) C dX3_move_224 (by decide) (fun c2 => ?_) (fun c2 => ?_)
            · refine gj_aload_n C dX3_move_240 rfl ?_
              refine gj_get C dX3_move_241 hW.1.1 rfl inX3 2 (by decide) w_331 rfl ?_
              refine gj_iload C dX3_move_244 rfl ?_
              refine gj_iload_n C dX3_move_246 rfl ?_
              refine gj_iastN C 0 dX3_move_247 (hW.1.2.2 1 (by decide) (by decide)) rfl hj (by decide) ?_
              have hW := rpm_st hW hj (mapI_at.trans hei) 1 (by decide) (by decide) sh
              have hei1 := va_up_self (mapI (phM r5 (rM sh (rw - r5.2.1) (co - r5.2.2.1) r5)) en i) i (some (setk 1 sh e0))
              generalize gm_up f (ad 1) (.inl (cI, 4096, .inl (upd (ga 1) i sh))) = f at hW ⊢
              generalize va_up ga 1 (upd (ga 1) i sh) = ga at hW
              obtain ⟨g0, g1, g2, g3, g4, g5, g6⟩ := rpm_at hW hj hei1
              refine gj_aload_n C dX3_move_248 rfl ?_
              refine gj_get C dX3_move_249 hW.1.1 rfl inX3 3 (by decide) w_332 rfl ?_
              refine gj_iload C dX3_move_252 rfl ?_
              refine gj_dup2 C dX3_move_254 rfl rfl ?_
              refine gj_ialdN C 0 dX3_move_255 (hW.1.2.2 2 (by decide) (by decide)) rfl hj (by decide) ?_
              refine gj_st (st' := [.int (setk 1 sh e0).1.2.1, .int (nI i), .ref (ad 2)]) (by rw [g2]) ?_
              refine gj_iload C dX3_move_256 rfl ?_
              refine gj_iadd C dX3_move_258 ?_
              refine gj_iastN C 0 dX3_move_259 (hW.1.2.2 2 (by decide) (by decide)) rfl hj (by decide) ?_
              have hW := rpm_st hW hj hei1 2 (by decide) (by decide) ((setk 1 sh e0).1.2.1 + (rw - r5.2.1))
              have hei1 := va_up_self (va_up (mapI (phM r5 (rM sh (rw - r5.2.1) (co - r5.2.2.1) r5)) en i) i (some (setk 1 sh e0))) i (some (setk 2 ((setk 1 sh e0).1.2.1 + (rw - r5.2.1)) (setk 1 sh e0)))
              generalize gm_up f (ad 2) (.inl (cI, 4096, .inl (upd (ga 2) i ((setk 1 sh e0).1.2.1 + (rw - r5.2.1))))) = f at hW ⊢
              generalize va_up ga 2 (upd (ga 2) i ((setk 1 sh e0).1.2.1 + (rw - r5.2.1))) = ga at hW
              obtain ⟨g0, g1, g2, g3, g4, g5, g6⟩ := rpm_at hW hj hei1
              refine gj_aload_n C dX3_move_260 rfl ?_
              refine gj_get C dX3_move_261 hW.1.1 rfl inX3 5 (by decide) w_334 rfl ?_
              refine gj_iload C dX3_move_264 rfl ?_
              refine gj_dup2 C dX3_move_266 rfl rfl ?_
              refine gj_ialdN C 0 dX3_move_267 (hW.1.2.2 4 (by decide) (by decide)) rfl hj (by decide) ?_
              refine gj_st (st' := [.int (setk 2 ((setk 1 sh e0).1.2.1 + (rw - r5.2.1)) (setk 1 sh e0)).1.2.2.2.1, .int (nI i), .ref (ad 4)]) (by rw [g4]) ?_
              refine gj_iload C dX3_move_268 rfl ?_
              refine gj_iadd C dX3_move_270 ?_
              refine gj_iastN C 0 dX3_move_271 (hW.1.2.2 4 (by decide) (by decide)) rfl hj (by decide) ?_
              have hW := rpm_st hW hj hei1 4 (by decide) (by decide) ((setk 2 ((setk 1 sh e0).1.2.1 + (rw - r5.2.1)) (setk 1 sh e0)).1.2.2.2.1 + (rw - r5.2.1))
              have hei1 := va_up_self (va_up (va_up (mapI (phM r5 (rM sh (rw - r5.2.1) (co - r5.2.2.1) r5)) en i) i (some (setk 1 sh e0))) i (some (setk 2 ((setk 1 sh e0).1.2.1 + (rw - r5.2.1)) (setk 1 sh e0)))) i (some (setk 4 ((setk 2 ((setk 1 sh e0).1.2.1 + (rw - r5.2.1)) (setk 1 sh e0)).1.2.2.2.1 + (rw - r5.2.1)) (setk 2 ((setk 1 sh e0).1.2.1 + (rw - r5.2.1)) (setk 1 sh e0))))
              generalize gm_up f (ad 4) (.inl (cI, 4096, .inl (upd (ga 4) i ((setk 2 ((setk 1 sh e0).1.2.1 + (rw - r5.2.1)) (setk 1 sh e0)).1.2.2.2.1 + (rw - r5.2.1))))) = f at hW ⊢
              generalize va_up ga 4 (upd (ga 4) i ((setk 2 ((setk 1 sh e0).1.2.1 + (rw - r5.2.1)) (setk 1 sh e0)).1.2.2.2.1 + (rw - r5.2.1))) = ga at hW
              obtain ⟨g0, g1, g2, g3, g4, g5, g6⟩ := rpm_at hW hj hei1
              refine gj_aload_n C dX3_move_272 rfl ?_
              refine gj_get C dX3_move_273 hW.1.1 rfl inX3 4 (by decide) w_333 rfl ?_
              refine gj_iload C dX3_move_276 rfl ?_
              refine gj_dup2 C dX3_move_278 rfl rfl ?_
              refine gj_ialdN C 0 dX3_move_279 (hW.1.2.2 3 (by decide) (by decide)) rfl hj (by decide) ?_
              refine gj_st (st' := [.int (setk 4 ((setk 2 ((setk 1 sh e0).1.2.1 + (rw - r5.2.1)) (setk 1 sh e0)).1.2.2.2.1 + (rw - r5.2.1)) (setk 2 ((setk 1 sh e0).1.2.1 + (rw - r5.2.1)) (setk 1 sh e0))).1.2.2.1, .int (nI i), .ref (ad 3)]) (by rw [g3]) ?_
              refine gj_iload C dX3_move_280 rfl ?_
              refine gj_iadd C dX3_move_282 ?_
              refine gj_iastN C 0 dX3_move_283 (hW.1.2.2 3 (by decide) (by decide)) rfl hj (by decide) ?_
              have hW := rpm_st hW hj hei1 3 (by decide) (by decide) ((setk 4 ((setk 2 ((setk 1 sh e0).1.2.1 + (rw - r5.2.1)) (setk 1 sh e0)).1.2.2.2.1 + (rw - r5.2.1)) (setk 2 ((setk 1 sh e0).1.2.1 + (rw - r5.2.1)) (setk 1 sh e0))).1.2.2.1 + (co - r5.2.2.1))
              have hei1 := va_up_self (va_up (va_up (va_up (mapI (phM r5 (rM sh (rw - r5.2.1) (co - r5.2.2.1) r5)) en i) i (some (setk 1 sh e0))) i (some (setk 2 ((setk 1 sh e0).1.2.1 + (rw - r5.2.1)) (setk 1 sh e0)))) i (some (setk 4 ((setk 2 ((setk 1 sh e0).1.2.1 + (rw - r5.2.1)) (setk 1 sh e0)).1.2.2.2.1 + (rw - r5.2.1)) (setk 2 ((setk 1 sh e0).1.2.1 + (rw - r5.2.1)) (setk 1 sh e0))))) i (some (setk 3 ((setk 4 ((setk 2 ((setk 1 sh e0).1.2.1 + (rw - r5.2.1)) (setk 1 sh e0)).1.2.2.2.1 + (rw - r5.2.1)) (setk 2 ((setk 1 sh e0).1.2.1 + (rw - r5.2.1)) (setk 1 sh e0))).1.2.2.1 + (co - r5.2.2.1)) (setk 4 ((setk 2 ((setk 1 sh e0).1.2.1 + (rw - r5.2.1)) (setk 1 sh e0)).1.2.2.2.1 + (rw - r5.2.1)) (setk 2 ((setk 1 sh e0).1.2.1 + (rw - r5.2.1)) (setk 1 sh e0)))))
              generalize gm_up f (ad 3) (.inl (cI, 4096, .inl (upd (ga 3) i ((setk 4 ((setk 2 ((setk 1 sh e0).1.2.1 + (rw - r5.2.1)) (setk 1 sh e0)).1.2.2.2.1 + (rw - r5.2.1)) (setk 2 ((setk 1 sh e0).1.2.1 + (rw - r5.2.1)) (setk 1 sh e0))).1.2.2.1 + (co - r5.2.2.1))))) = f at hW ⊢
              generalize va_up ga 3 (upd (ga 3) i ((setk 4 ((setk 2 ((setk 1 sh e0).1.2.1 + (rw - r5.2.1)) (setk 1 sh e0)).1.2.2.2.1 + (rw - r5.2.1)) (setk 2 ((setk 1 sh e0).1.2.1 + (rw - r5.2.1)) (setk 1 sh e0))).1.2.2.1 + (co - r5.2.2.1))) = ga at hW
              obtain ⟨g0, g1, g2, g3, g4, g5, g6⟩ := rpm_at hW hj hei1
              refine gj_aload_n C dX3_move_284 rfl ?_
              refine gj_get C dX3_move_285 hW.1.1 rfl inX3 6 (by decide) w_335 rfl ?_
              refine gj_iload C dX3_move_288 rfl ?_
              refine gj_dup2 C dX3_move_290 rfl rfl ?_
              refine gj_ialdN C 0 dX3_move_291 (hW.1.2.2 5 (by decide) (by decide)) rfl hj (by decide) ?_
              refine gj_st (st' := [.int (setk 3 ((setk 4 ((setk 2 ((setk 1 sh e0).1.2.1 + (rw - r5.2.1)) (setk 1 sh e0)).1.2.2.2.1 + (rw - r5.2.1)) (setk 2 ((setk 1 sh e0).1.2.1 + (rw - r5.2.1)) (setk 1 sh e0))).1.2.2.1 + (co - r5.2.2.1)) (setk 4 ((setk 2 ((setk 1 sh e0).1.2.1 + (rw - r5.2.1)) (setk 1 sh e0)).1.2.2.2.1 + (rw - r5.2.1)) (setk 2 ((setk 1 sh e0).1.2.1 + (rw - r5.2.1)) (setk 1 sh e0)))).1.2.2.2.2, .int (nI i), .ref (ad 5)]) (by rw [g5]) ?_
              refine gj_iload C dX3_move_292 rfl ?_
              refine gj_iadd C dX3_move_294 ?_
              refine gj_iastN C 0 dX3_move_295 (hW.1.2.2 5 (by decide) (by decide)) rfl hj (by decide) ?_
              have hW := rpm_st hW hj hei1 5 (by decide) (by decide) ((setk 3 ((setk 4 ((setk 2 ((setk 1 sh e0).1.2.1 + (rw - r5.2.1)) (setk 1 sh e0)).1.2.2.2.1 + (rw - r5.2.1)) (setk 2 ((setk 1 sh e0).1.2.1 + (rw - r5.2.1)) (setk 1 sh e0))).1.2.2.1 + (co - r5.2.2.1)) (setk 4 ((setk 2 ((setk 1 sh e0).1.2.1 + (rw - r5.2.1)) (setk 1 sh e0)).1.2.2.2.1 + (rw - r5.2.1)) (setk 2 ((setk 1 sh e0).1.2.1 + (rw - r5.2.1)) (setk 1 sh e0)))).1.2.2.2.2 + (co - r5.2.2.1))
              have hei1 := va_up_self (va_up (va_up (va_up (va_up (mapI (phM r5 (rM sh (rw - r5.2.1) (co - r5.2.2.1) r5)) en i) i (some (setk 1 sh e0))) i (some (setk 2 ((setk 1 sh e0).1.2.1 + (rw - r5.2.1)) (setk 1 sh e0)))) i (some (setk 4 ((setk 2 ((setk 1 sh e0).1.2.1 + (rw - r5.2.1)) (setk 1 sh e0)).1.2.2.2.1 + (rw - r5.2.1)) (setk 2 ((setk 1 sh e0).1.2.1 + (rw - r5.2.1)) (setk 1 sh e0))))) i (some (setk 3 ((setk 4 ((setk 2 ((setk 1 sh e0).1.2.1 + (rw - r5.2.1)) (setk 1 sh e0)).1.2.2.2.1 + (rw - r5.2.1)) (setk 2 ((setk 1 sh e0).1.2.1 + (rw - r5.2.1)) (setk 1 sh e0))).1.2.2.1 + (co - r5.2.2.1)) (setk 4 ((setk 2 ((setk 1 sh e0).1.2.1 + (rw - r5.2.1)) (setk 1 sh e0)).1.2.2.2.1 + (rw - r5.2.1)) (setk 2 ((setk 1 sh e0).1.2.1 + (rw - r5.2.1)) (setk 1 sh e0)))))) i (some (setk 5 ((setk 3 ((setk 4 ((setk 2 ((setk 1 sh e0).1.2.1 + (rw - r5.2.1)) (setk 1 sh e0)).1.2.2.2.1 + (rw - r5.2.1)) (setk 2 ((setk 1 sh e0).1.2.1 + (rw - r5.2.1)) (setk 1 sh e0))).1.2.2.1 + (co - r5.2.2.1)) (setk 4 ((setk 2 ((setk 1 sh e0).1.2.1 + (rw - r5.2.1)) (setk 1 sh e0)).1.2.2.2.1 + (rw - r5.2.1)) (setk 2 ((setk 1 sh e0).1.2.1 + (rw - r5.2.1)) (setk 1 sh e0)))).1.2.2.2.2 + (co - r5.2.2.1)) (setk 3 ((setk 4 ((setk 2 ((setk 1 sh e0).1.2.1 + (rw - r5.2.1)) (setk 1 sh e0)).1.2.2.2.1 + (rw - r5.2.1)) (setk 2 ((setk 1 sh e0).1.2.1 + (rw - r5.2.1)) (setk 1 sh e0))).1.2.2.1 + (co - r5.2.2.1)) (setk 4 ((setk 2 ((setk 1 sh e0).1.2.1 + (rw - r5.2.1)) (setk 1 sh e0)).1.2.2.2.1 + (rw - r5.2.1)) (setk 2 ((setk 1 sh e0).1.2.1 + (rw - r5.2.1)) (setk 1 sh e0))))))
              generalize gm_up f (ad 5) (.inl (cI, 4096, .inl (upd (ga 5) i ((setk 3 ((setk 4 ((setk 2 ((setk 1 sh e0).1.2.1 + (rw - r5.2.1)) (setk 1 sh e0)).1.2.2.2.1 + (rw - r5.2.1)) (setk 2 ((setk 1 sh e0).1.2.1 + (rw - r5.2.1)) (setk 1 sh e0))).1.2.2.1 + (co - r5.2.2.1)) (setk 4 ((setk 2 ((setk 1 sh e0).1.2.1 + (rw - r5.2.1)) (setk 1 sh e0)).1.2.2.2.1 + (rw - r5.2.1)) (setk 2 ((setk 1 sh e0).1.2.1 + (rw - r5.2.1)) (setk 1 sh e0)))).1.2.2.2.2 + (co - r5.2.2.1))))) = f at hW ⊢
              generalize va_up ga 5 (upd (ga 5) i ((setk 3 ((setk 4 ((setk 2 ((setk 1 sh e0).1.2.1 + (rw - r5.2.1)) (setk 1 sh e0)).1.2.2.2.1 + (rw - r5.2.1)) (setk 2 ((setk 1 sh e0).1.2.1 + (rw - r5.2.1)) (setk 1 sh e0))).1.2.2.1 + (co - r5.2.2.1)) (setk 4 ((setk 2 ((setk 1 sh e0).1.2.1 + (rw - r5.2.1)) (setk 1 sh e0)).1.2.2.2.1 + (rw - r5.2.1)) (setk 2 ((setk 1 sh e0).1.2.1 + (rw - r5.2.1)) (setk 1 sh e0)))).1.2.2.2.2 + (co - r5.2.2.1))) = ga at hW
              obtain ⟨g0, g1, g2, g3, g4, g5, g6⟩ := rpm_at hW hj hei1
              refine gj_iinc (v := (nI ((cbE (chM r5 (rM sh (rw - r5.2.1) (co - r5.2.2.1) r5)) en i) + 1))) (lw' := [some (.ref y), some (.int sh), some (.int rw), some (.int co), some (.int 1), some (.int (rw - r5.2.1)), some (.int (co - r5.2.2.1)), some (.int 1), some (.int (nI ((cbE (chM r5 (rM sh (rw - r5.2.1) (co - r5.2.2.1) r5)) en i) + 1))), some (.int (nI i)), some (.int (bI (decide (rIn e0.1 r5))))]) C dX3_move_296 rfl (nI_1 (cbE (chM r5 (rM sh (rw - r5.2.1) (co - r5.2.2.1) r5)) en i)) (by decide) rfl rfl ?_
              refine gj_iinc (v := (nI (i + 1))) (lw' := [some (.ref y), some (.int sh), some (.int rw), some (.int co), some (.int 1), some (.int (rw - r5.2.1)), some (.int (co - r5.2.2.1)), some (.int 1), some (.int (nI ((cbE (chM r5 (rM sh (rw - r5.2.1) (co - r5.2.2.1) r5)) en i) + 1))), some (.int (nI (i + 1))), some (.int (bI (decide (rIn e0.1 r5))))]) C dX3_move_299 rfl (nI_1 i) (by decide) rfl rfl ?_
              refine gj_goto (tgt := 138) C dX3_move_302 (by decide) ?_
              refine gj_un 10 (lw' := [some (.ref y), some (.int sh), some (.int rw), some (.int co), some (.int 1), some (.int (rw - r5.2.1)), some (.int (co - r5.2.2.1)), some (.int 1), some (.int (nI ((cbE (chM r5 (rM sh (rw - r5.2.1) (co - r5.2.2.1) r5)) en i) + 1))), some (.int (nI (i + 1))), none]) rfl ?_
              have h9 := ih (i + 1) f (by omega) (by rw [mapI_s hei, phM_mv (bI_p1 c1)]; rw [bx_uu, bx_uu, bx_uu, bx_uu] at hW; exact ⟨ad, ga, _, r5, by rw [cn_same (mapI_at.trans hei)]; exact hW⟩)
              rw [cb_t hei (chM_1 (fun h => c2 (sameM_mv.mp h).1) (bI_p1 c1))] at h9
              exact h9
            · refine gj_iload C dX3_move_227 rfl ?_
              refine gj_if_ne (tgt := 240) C dX3_move_229 (by decide) (fun c3 => ?_) (fun c3 => ?_)
              · refine gj_aload_n C dX3_move_240 rfl ?_
                refine gj_get C dX3_move_241 hW.1.1 rfl inX3 2 (by decide) w_331 rfl ?_
                refine gj_iload C dX3_move_244 rfl ?_
                refine gj_iload_n C dX3_move_246 rfl ?_
                refine gj_iastN C 0 dX3_move_247 (hW.1.2.2 1 (by decide) (by decide)) rfl hj (by decide) ?_
                have hW := rpm_st hW hj (mapI_at.trans hei) 1 (by decide) (by decide) sh
                have hei1 := va_up_self (mapI (phM r5 (rM sh (rw - r5.2.1) (co - r5.2.2.1) r5)) en i) i (some (setk 1 sh e0))
                generalize gm_up f (ad 1) (.inl (cI, 4096, .inl (upd (ga 1) i sh))) = f at hW ⊢
                generalize va_up ga 1 (upd (ga 1) i sh) = ga at hW
                obtain ⟨g0, g1, g2, g3, g4, g5, g6⟩ := rpm_at hW hj hei1
                refine gj_aload_n C dX3_move_248 rfl ?_
                refine gj_get C dX3_move_249 hW.1.1 rfl inX3 3 (by decide) w_332 rfl ?_
                refine gj_iload C dX3_move_252 rfl ?_
                refine gj_dup2 C dX3_move_254 rfl rfl ?_
                refine gj_ialdN C 0 dX3_move_255 (hW.1.2.2 2 (by decide) (by decide)) rfl hj (by decide) ?_
                refine gj_st (st' := [.int (setk 1 sh e0).1.2.1, .int (nI i), .ref (ad 2)]) (by rw [g2]) ?_
                refine gj_iload C dX3_move_256 rfl ?_
                refine gj_iadd C dX3_move_258 ?_
                refine gj_iastN C 0 dX3_move_259 (hW.1.2.2 2 (by decide) (by decide)) rfl hj (by decide) ?_
                have hW := rpm_st hW hj hei1 2 (by decide) (by decide) ((setk 1 sh e0).1.2.1 + (rw - r5.2.1))
                have hei1 := va_up_self (va_up (mapI (phM r5 (rM sh (rw - r5.2.1) (co - r5.2.2.1) r5)) en i) i (some (setk 1 sh e0))) i (some (setk 2 ((setk 1 sh e0).1.2.1 + (rw - r5.2.1)) (setk 1 sh e0)))
                generalize gm_up f (ad 2) (.inl (cI, 4096, .inl (upd (ga 2) i ((setk 1 sh e0).1.2.1 + (rw - r5.2.1))))) = f at hW ⊢
                generalize va_up ga 2 (upd (ga 2) i ((setk 1 sh e0).1.2.1 + (rw - r5.2.1))) = ga at hW
                obtain ⟨g0, g1, g2, g3, g4, g5, g6⟩ := rpm_at hW hj hei1
                refine gj_aload_n C dX3_move_260 rfl ?_
                refine gj_get C dX3_move_261 hW.1.1 rfl inX3 5 (by decide) w_334 rfl ?_
                refine gj_iload C dX3_move_264 rfl ?_
                refine gj_dup2 C dX3_move_266 rfl rfl ?_
                refine gj_ialdN C 0 dX3_move_267 (hW.1.2.2 4 (by decide) (by decide)) rfl hj (by decide) ?_
                refine gj_st (st' := [.int (setk 2 ((setk 1 sh e0).1.2.1 + (rw - r5.2.1)) (setk 1 sh e0)).1.2.2.2.1, .int (nI i), .ref (ad 4)]) (by rw [g4]) ?_
                refine gj_iload C dX3_move_268 rfl ?_
                refine gj_iadd C dX3_move_270 ?_
                refine gj_iastN C 0 dX3_move_271 (hW.1.2.2 4 (by decide) (by decide)) rfl hj (by decide) ?_
                have hW := rpm_st hW hj hei1 4 (by decide) (by decide) ((setk 2 ((setk 1 sh e0).1.2.1 + (rw - r5.2.1)) (setk 1 sh e0)).1.2.2.2.1 + (rw - r5.2.1))
                have hei1 := va_up_self (va_up (va_up (mapI (phM r5 (rM sh (rw - r5.2.1) (co - r5.2.2.1) r5)) en i) i (some (setk 1 sh e0))) i (some (setk 2 ((setk 1 sh e0).1.2.1 + (rw - r5.2.1)) (setk 1 sh e0)))) i (some (setk 4 ((setk 2 ((setk 1 sh e0).1.2.1 + (rw - r5.2.1)) (setk 1 sh e0)).1.2.2.2.1 + (rw - r5.2.1)) (setk 2 ((setk 1 sh e0).1.2.1 + (rw - r5.2.1)) (setk 1 sh e0))))
                generalize gm_up f (ad 4) (.inl (cI, 4096, .inl (upd (ga 4) i ((setk 2 ((setk 1 sh e0).1.2.1 + (rw - r5.2.1)) (setk 1 sh e0)).1.2.2.2.1 + (rw - r5.2.1))))) = f at hW ⊢
                generalize va_up ga 4 (upd (ga 4) i ((setk 2 ((setk 1 sh e0).1.2.1 + (rw - r5.2.1)) (setk 1 sh e0)).1.2.2.2.1 + (rw - r5.2.1))) = ga at hW
                obtain ⟨g0, g1, g2, g3, g4, g5, g6⟩ := rpm_at hW hj hei1
                refine gj_aload_n C dX3_move_272 rfl ?_
                refine gj_get C dX3_move_273 hW.1.1 rfl inX3 4 (by decide) w_333 rfl ?_
                refine gj_iload C dX3_move_276 rfl ?_
                refine gj_dup2 C dX3_move_278 rfl rfl ?_
                refine gj_ialdN C 0 dX3_move_279 (hW.1.2.2 3 (by decide) (by decide)) rfl hj (by decide) ?_
                refine gj_st (st' := [.int (setk 4 ((setk 2 ((setk 1 sh e0).1.2.1 + (rw - r5.2.1)) (setk 1 sh e0)).1.2.2.2.1 + (rw - r5.2.1)) (setk 2 ((setk 1 sh e0).1.2.1 + (rw - r5.2.1)) (setk 1 sh e0))).1.2.2.1, .int (nI i), .ref (ad 3)]) (by rw [g3]) ?_
                refine gj_iload C dX3_move_280 rfl ?_
                refine gj_iadd C dX3_move_282 ?_
                refine gj_iastN C 0 dX3_move_283 (hW.1.2.2 3 (by decide) (by decide)) rfl hj (by decide) ?_
                have hW := rpm_st hW hj hei1 3 (by decide) (by decide) ((setk 4 ((setk 2 ((setk 1 sh e0).1.2.1 + (rw - r5.2.1)) (setk 1 sh e0)).1.2.2.2.1 + (rw - r5.2.1)) (setk 2 ((setk 1 sh e0).1.2.1 + (rw - r5.2.1)) (setk 1 sh e0))).1.2.2.1 + (co - r5.2.2.1))
                have hei1 := va_up_self (va_up (va_up (va_up (mapI (phM r5 (rM sh (rw - r5.2.1) (co - r5.2.2.1) r5)) en i) i (some (setk 1 sh e0))) i (some (setk 2 ((setk 1 sh e0).1.2.1 + (rw - r5.2.1)) (setk 1 sh e0)))) i (some (setk 4 ((setk 2 ((setk 1 sh e0).1.2.1 + (rw - r5.2.1)) (setk 1 sh e0)).1.2.2.2.1 + (rw - r5.2.1)) (setk 2 ((setk 1 sh e0).1.2.1 + (rw - r5.2.1)) (setk 1 sh e0))))) i (some (setk 3 ((setk 4 ((setk 2 ((setk 1 sh e0).1.2.1 + (rw - r5.2.1)) (setk 1 sh e0)).1.2.2.2.1 + (rw - r5.2.1)) (setk 2 ((setk 1 sh e0).1.2.1 + (rw - r5.2.1)) (setk 1 sh e0))).1.2.2.1 + (co - r5.2.2.1)) (setk 4 ((setk 2 ((setk 1 sh e0).1.2.1 + (rw - r5.2.1)) (setk 1 sh e0)).1.2.2.2.1 + (rw - r5.2.1)) (setk 2 ((setk 1 sh e0).1.2.1 + (rw - r5.2.1)) (setk 1 sh e0)))))
                generalize gm_up f (ad 3) (.inl (cI, 4096, .inl (upd (ga 3) i ((setk 4 ((setk 2 ((setk 1 sh e0).1.2.1 + (rw - r5.2.1)) (setk 1 sh e0)).1.2.2.2.1 + (rw - r5.2.1)) (setk 2 ((setk 1 sh e0).1.2.1 + (rw - r5.2.1)) (setk 1 sh e0))).1.2.2.1 + (co - r5.2.2.1))))) = f at hW ⊢
                generalize va_up ga 3 (upd (ga 3) i ((setk 4 ((setk 2 ((setk 1 sh e0).1.2.1 + (rw - r5.2.1)) (setk 1 sh e0)).1.2.2.2.1 + (rw - r5.2.1)) (setk 2 ((setk 1 sh e0).1.2.1 + (rw - r5.2.1)) (setk 1 sh e0))).1.2.2.1 + (co - r5.2.2.1))) = ga at hW
                obtain ⟨g0, g1, g2, g3, g4, g5, g6⟩ := rpm_at hW hj hei1
                refine gj_aload_n C dX3_move_284 rfl ?_
                refine gj_get C dX3_move_285 hW.1.1 rfl inX3 6 (by decide) w_335 rfl ?_
                refine gj_iload C dX3_move_288 rfl ?_
                refine gj_dup2 C dX3_move_290 rfl rfl ?_
                refine gj_ialdN C 0 dX3_move_291 (hW.1.2.2 5 (by decide) (by decide)) rfl hj (by decide) ?_
                refine gj_st (st' := [.int (setk 3 ((setk 4 ((setk 2 ((setk 1 sh e0).1.2.1 + (rw - r5.2.1)) (setk 1 sh e0)).1.2.2.2.1 + (rw - r5.2.1)) (setk 2 ((setk 1 sh e0).1.2.1 + (rw - r5.2.1)) (setk 1 sh e0))).1.2.2.1 + (co - r5.2.2.1)) (setk 4 ((setk 2 ((setk 1 sh e0).1.2.1 + (rw - r5.2.1)) (setk 1 sh e0)).1.2.2.2.1 + (rw - r5.2.1)) (setk 2 ((setk 1 sh e0).1.2.1 + (rw - r5.2.1)) (setk 1 sh e0)))).1.2.2.2.2, .int (nI i), .ref (ad 5)]) (by rw [g5]) ?_
                refine gj_iload C dX3_move_292 rfl ?_
                refine gj_iadd C dX3_move_294 ?_
                refine gj_iastN C 0 dX3_move_295 (hW.1.2.2 5 (by decide) (by decide)) rfl hj (by decide) ?_
                have hW := rpm_st hW hj hei1 5 (by decide) (by decide) ((setk 3 ((setk 4 ((setk 2 ((setk 1 sh e0).1.2.1 + (rw - r5.2.1)) (setk 1 sh e0)).1.2.2.2.1 + (rw - r5.2.1)) (setk 2 ((setk 1 sh e0).1.2.1 + (rw - r5.2.1)) (setk 1 sh e0))).1.2.2.1 + (co - r5.2.2.1)) (setk 4 ((setk 2 ((setk 1 sh e0).1.2.1 + (rw - r5.2.1)) (setk 1 sh e0)).1.2.2.2.1 + (rw - r5.2.1)) (setk 2 ((setk 1 sh e0).1.2.1 + (rw - r5.2.1)) (setk 1 sh e0)))).1.2.2.2.2 + (co - r5.2.2.1))
                have hei1 := va_up_self (va_up (va_up (va_up (va_up (mapI (phM r5 (rM sh (rw - r5.2.1) (co - r5.2.2.1) r5)) en i) i (some (setk 1 sh e0))) i (some (setk 2 ((setk 1 sh e0).1.2.1 + (rw - r5.2.1)) (setk 1 sh e0)))) i (some (setk 4 ((setk 2 ((setk 1 sh e0).1.2.1 + (rw - r5.2.1)) (setk 1 sh e0)).1.2.2.2.1 + (rw - r5.2.1)) (setk 2 ((setk 1 sh e0).1.2.1 + (rw - r5.2.1)) (setk 1 sh e0))))) i (some (setk 3 ((setk 4 ((setk 2 ((setk 1 sh e0).1.2.1 + (rw - r5.2.1)) (setk 1 sh e0)).1.2.2.2.1 + (rw - r5.2.1)) (setk 2 ((setk 1 sh e0).1.2.1 + (rw - r5.2.1)) (setk 1 sh e0))).1.2.2.1 + (co - r5.2.2.1)) (setk 4 ((setk 2 ((setk 1 sh e0).1.2.1 + (rw - r5.2.1)) (setk 1 sh e0)).1.2.2.2.1 + (rw - r5.2.1)) (setk 2 ((setk 1 sh e0).1.2.1 + (rw - r5.2.1)) (setk 1 sh e0)))))) i (some (setk 5 ((setk 3 ((setk 4 ((setk 2 ((setk 1 sh e0).1.2.1 + (rw - r5.2.1)) (setk 1 sh e0)).1.2.2.2.1 + (rw - r5.2.1)) (setk 2 ((setk 1 sh e0).1.2.1 + (rw - r5.2.1)) (setk 1 sh e0))).1.2.2.1 + (co - r5.2.2.1)) (setk 4 ((setk 2 ((setk 1 sh e0).1.2.1 + (rw - r5.2.1)) (setk 1 sh e0)).1.2.2.2.1 + (rw - r5.2.1)) (setk 2 ((setk 1 sh e0).1.2.1 + (rw - r5.2.1)) (setk 1 sh e0)))).1.2.2.2.2 + (co - r5.2.2.1)) (setk 3 ((setk 4 ((setk 2 ((setk 1 sh e0).1.2.1 + (rw - r5.2.1)) (setk 1 sh e0)).1.2.2.2.1 + (rw - r5.2.1)) (setk 2 ((setk 1 sh e0).1.2.1 + (rw - r5.2.1)) (setk 1 sh e0))).1.2.2.1 + (co - r5.2.2.1)) (setk 4 ((setk 2 ((setk 1 sh e0).1.2.1 + (rw - r5.2.1)) (setk 1 sh e0)).1.2.2.2.1 + (rw - r5.2.1)) (setk 2 ((setk 1 sh e0).1.2.1 + (rw - r5.2.1)) (setk 1 sh e0))))))
                generalize gm_up f (ad 5) (.inl (cI, 4096, .inl (upd (ga 5) i ((setk 3 ((setk 4 ((setk 2 ((setk 1 sh e0).1.2.1 + (rw - r5.2.1)) (setk 1 sh e0)).1.2.2.2.1 + (rw - r5.2.1)) (setk 2 ((setk 1 sh e0).1.2.1 + (rw - r5.2.1)) (setk 1 sh e0))).1.2.2.1 + (co - r5.2.2.1)) (setk 4 ((setk 2 ((setk 1 sh e0).1.2.1 + (rw - r5.2.1)) (setk 1 sh e0)).1.2.2.2.1 + (rw - r5.2.1)) (setk 2 ((setk 1 sh e0).1.2.1 + (rw - r5.2.1)) (setk 1 sh e0)))).1.2.2.2.2 + (co - r5.2.2.1))))) = f at hW ⊢
                generalize va_up ga 5 (upd (ga 5) i ((setk 3 ((setk 4 ((setk 2 ((setk 1 sh e0).1.2.1 + (rw - r5.2.1)) (setk 1 sh e0)).1.2.2.2.1 + (rw - r5.2.1)) (setk 2 ((setk 1 sh e0).1.2.1 + (rw - r5.2.1)) (setk 1 sh e0))).1.2.2.1 + (co - r5.2.2.1)) (setk 4 ((setk 2 ((setk 1 sh e0).1.2.1 + (rw - r5.2.1)) (setk 1 sh e0)).1.2.2.2.1 + (rw - r5.2.1)) (setk 2 ((setk 1 sh e0).1.2.1 + (rw - r5.2.1)) (setk 1 sh e0)))).1.2.2.2.2 + (co - r5.2.2.1))) = ga at hW
                obtain ⟨g0, g1, g2, g3, g4, g5, g6⟩ := rpm_at hW hj hei1
                refine gj_iinc (v := (nI ((cbE (chM r5 (rM sh (rw - r5.2.1) (co - r5.2.2.1) r5)) en i) + 1))) (lw' := [some (.ref y), some (.int sh), some (.int rw), some (.int co), some (.int 1), some (.int (rw - r5.2.1)), some (.int (co - r5.2.2.1)), some (.int 1), some (.int (nI ((cbE (chM r5 (rM sh (rw - r5.2.1) (co - r5.2.2.1) r5)) en i) + 1))), some (.int (nI i)), some (.int (bI (decide (rIn e0.1 r5))))]) C dX3_move_296 rfl (nI_1 (cbE (chM r5 (rM sh (rw - r5.2.1) (co - r5.2.2.1) r5)) en i)) (by decide) rfl rfl ?_
                refine gj_iinc (v := (nI (i + 1))) (lw' := [some (.ref y), some (.int sh), some (.int rw), some (.int co), some (.int 1), some (.int (rw - r5.2.1)), some (.int (co - r5.2.2.1)), some (.int 1), some (.int (nI ((cbE (chM r5 (rM sh (rw - r5.2.1) (co - r5.2.2.1) r5)) en i) + 1))), some (.int (nI (i + 1))), some (.int (bI (decide (rIn e0.1 r5))))]) C dX3_move_299 rfl (nI_1 i) (by decide) rfl rfl ?_
                refine gj_goto (tgt := 138) C dX3_move_302 (by decide) ?_
                refine gj_un 10 (lw' := [some (.ref y), some (.int sh), some (.int rw), some (.int co), some (.int 1), some (.int (rw - r5.2.1)), some (.int (co - r5.2.2.1)), some (.int 1), some (.int (nI ((cbE (chM r5 (rM sh (rw - r5.2.1) (co - r5.2.2.1) r5)) en i) + 1))), some (.int (nI (i + 1))), none]) rfl ?_
                have h9 := ih (i + 1) f (by omega) (by rw [mapI_s hei, phM_mv (bI_p1 c1)]; rw [bx_uu, bx_uu, bx_uu, bx_uu] at hW; exact ⟨ad, ga, _, r5, by rw [cn_same (mapI_at.trans hei)]; exact hW⟩)
                rw [cb_t hei (chM_1 (fun h => c3 (sameM_mv.mp h).2.1) (bI_p1 c1))] at h9
                exact h9
              · refine gj_iload C dX3_move_232 rfl ?_
                refine gj_if_ne (tgt := 240) C dX3_move_234 (by decide) (fun c4 => ?_) (fun c4 => ?_)
                · refine gj_aload_n C dX3_move_240 rfl ?_
                  refine gj_get C dX3_move_241 hW.1.1 rfl inX3 2 (by decide) w_331 rfl ?_
                  refine gj_iload C dX3_move_244 rfl ?_
                  refine gj_iload_n C dX3_move_246 rfl ?_
                  refine gj_iastN C 0 dX3_move_247 (hW.1.2.2 1 (by decide) (by decide)) rfl hj (by decide) ?_
                  have hW := rpm_st hW hj (mapI_at.trans hei) 1 (by decide) (by decide) sh
                  have hei1 := va_up_self (mapI (phM r5 (rM sh (rw - r5.2.1) (co - r5.2.2.1) r5)) en i) i (some (setk 1 sh e0))
                  generalize gm_up f (ad 1) (.inl (cI, 4096, .inl (upd (ga 1) i sh))) = f at hW ⊢
                  generalize va_up ga 1 (upd (ga 1) i sh) = ga at hW
                  obtain ⟨g0, g1, g2, g3, g4, g5, g6⟩ := rpm_at hW hj hei1
                  refine gj_aload_n C dX3_move_248 rfl ?_
                  refine gj_get C dX3_move_249 hW.1.1 rfl inX3 3 (by decide) w_332 rfl ?_
                  refine gj_iload C dX3_move_252 rfl ?_
                  refine gj_dup2 C dX3_move_254 rfl rfl ?_
                  refine gj_ialdN C 0 dX3_move_255 (hW.1.2.2 2 (by decide) (by decide)) rfl hj (by decide) ?_
                  refine gj_st (st' := [.int (setk 1 sh e0).1.2.1, .int (nI i), .ref (ad 2)]) (by rw [g2]) ?_
                  refine gj_iload C dX3_move_256 rfl ?_
                  refine gj_iadd C dX3_move_258 ?_
                  refine gj_iastN C 0 dX3_move_259 (hW.1.2.2 2 (by decide) (by decide)) rfl hj (by decide) ?_
                  have hW := rpm_st hW hj hei1 2 (by decide) (by decide) ((setk 1 sh e0).1.2.1 + (rw - r5.2.1))
                  have hei1 := va_up_self (va_up (mapI (phM r5 (rM sh (rw - r5.2.1) (co - r5.2.2.1) r5)) en i) i (some (setk 1 sh e0))) i (some (setk 2 ((setk 1 sh e0).1.2.1 + (rw - r5.2.1)) (setk 1 sh e0)))
                  generalize gm_up f (ad 2) (.inl (cI, 4096, .inl (upd (ga 2) i ((setk 1 sh e0).1.2.1 + (rw - r5.2.1))))) = f at hW ⊢
                  generalize va_up ga 2 (upd (ga 2) i ((setk 1 sh e0).1.2.1 + (rw - r5.2.1))) = ga at hW
                  obtain ⟨g0, g1, g2, g3, g4, g5, g6⟩ := rpm_at hW hj hei1
                  refine gj_aload_n C dX3_move_260 rfl ?_
                  refine gj_get C dX3_move_261 hW.1.1 rfl inX3 5 (by decide) w_334 rfl ?_
                  refine gj_iload C dX3_move_264 rfl ?_
                  refine gj_dup2 C dX3_move_266 rfl rfl ?_
                  refine gj_ialdN C 0 dX3_move_267 (hW.1.2.2 4 (by decide) (by decide)) rfl hj (by decide) ?_
                  refine gj_st (st' := [.int (setk 2 ((setk 1 sh e0).1.2.1 + (rw - r5.2.1)) (setk 1 sh e0)).1.2.2.2.1, .int (nI i), .ref (ad 4)]) (by rw [g4]) ?_
                  refine gj_iload C dX3_move_268 rfl ?_
                  refine gj_iadd C dX3_move_270 ?_
                  refine gj_iastN C 0 dX3_move_271 (hW.1.2.2 4 (by decide) (by decide)) rfl hj (by decide) ?_
                  have hW := rpm_st hW hj hei1 4 (by decide) (by decide) ((setk 2 ((setk 1 sh e0).1.2.1 + (rw - r5.2.1)) (setk 1 sh e0)).1.2.2.2.1 + (rw - r5.2.1))
                  have hei1 := va_up_self (va_up (va_up (mapI (phM r5 (rM sh (rw - r5.2.1) (co - r5.2.2.1) r5)) en i) i (some (setk 1 sh e0))) i (some (setk 2 ((setk 1 sh e0).1.2.1 + (rw - r5.2.1)) (setk 1 sh e0)))) i (some (setk 4 ((setk 2 ((setk 1 sh e0).1.2.1 + (rw - r5.2.1)) (setk 1 sh e0)).1.2.2.2.1 + (rw - r5.2.1)) (setk 2 ((setk 1 sh e0).1.2.1 + (rw - r5.2.1)) (setk 1 sh e0))))
                  generalize gm_up f (ad 4) (.inl (cI, 4096, .inl (upd (ga 4) i ((setk 2 ((setk 1 sh e0).1.2.1 + (rw - r5.2.1)) (setk 1 sh e0)).1.2.2.2.1 + (rw - r5.2.1))))) = f at hW ⊢
                  generalize va_up ga 4 (upd (ga 4) i ((setk 2 ((setk 1 sh e0).1.2.1 + (rw - r5.2.1)) (setk 1 sh e0)).1.2.2.2.1 + (rw - r5.2.1))) = ga at hW
                  obtain ⟨g0, g1, g2, g3, g4, g5, g6⟩ := rpm_at hW hj hei1
                  refine gj_aload_n C dX3_move_272 rfl ?_
                  refine gj_get C dX3_move_273 hW.1.1 rfl inX3 4 (by decide) w_333 rfl ?_
                  refine gj_iload C dX3_move_276 rfl ?_
                  refine gj_dup2 C dX3_move_278 rfl rfl ?_
                  refine gj_ialdN C 0 dX3_move_279 (hW.1.2.2 3 (by decide) (by decide)) rfl hj (by decide) ?_
                  refine gj_st (st' := [.int (setk 4 ((setk 2 ((setk 1 sh e0).1.2.1 + (rw - r5.2.1)) (setk 1 sh e0)).1.2.2.2.1 + (rw - r5.2.1)) (setk 2 ((setk 1 sh e0).1.2.1 + (rw - r5.2.1)) (setk 1 sh e0))).1.2.2.1, .int (nI i), .ref (ad 3)]) (by rw [g3]) ?_
                  refine gj_iload C dX3_move_280 rfl ?_
                  refine gj_iadd C dX3_move_282 ?_
                  refine gj_iastN C 0 dX3_move_283 (hW.1.2.2 3 (by decide) (by decide)) rfl hj (by decide) ?_
                  have hW := rpm_st hW hj hei1 3 (by decide) (by decide) ((setk 4 ((setk 2 ((setk 1 sh e0).1.2.1 + (rw - r5.2.1)) (setk 1 sh e0)).1.2.2.2.1 + (rw - r5.2.1)) (setk 2 ((setk 1 sh e0).1.2.1 + (rw - r5.2.1)) (setk 1 sh e0))).1.2.2.1 + (co - r5.2.2.1))
                  have hei1 := va_up_self (va_up (va_up (va_up (mapI (phM r5 (rM sh (rw - r5.2.1) (co - r5.2.2.1) r5)) en i) i (some (setk 1 sh e0))) i (some (setk 2 ((setk 1 sh e0).1.2.1 + (rw - r5.2.1)) (setk 1 sh e0)))) i (some (setk 4 ((setk 2 ((setk 1 sh e0).1.2.1 + (rw - r5.2.1)) (setk 1 sh e0)).1.2.2.2.1 + (rw - r5.2.1)) (setk 2 ((setk 1 sh e0).1.2.1 + (rw - r5.2.1)) (setk 1 sh e0))))) i (some (setk 3 ((setk 4 ((setk 2 ((setk 1 sh e0).1.2.1 + (rw - r5.2.1)) (setk 1 sh e0)).1.2.2.2.1 + (rw - r5.2.1)) (setk 2 ((setk 1 sh e0).1.2.1 + (rw - r5.2.1)) (setk 1 sh e0))).1.2.2.1 + (co - r5.2.2.1)) (setk 4 ((setk 2 ((setk 1 sh e0).1.2.1 + (rw - r5.2.1)) (setk 1 sh e0)).1.2.2.2.1 + (rw - r5.2.1)) (setk 2 ((setk 1 sh e0).1.2.1 + (rw - r5.2.1)) (setk 1 sh e0)))))
                  generalize gm_up f (ad 3) (.inl (cI, 4096, .inl (upd (ga 3) i ((setk 4 ((setk 2 ((setk 1 sh e0).1.2.1 + (rw - r5.2.1)) (setk 1 sh e0)).1.2.2.2.1 + (rw - r5.2.1)) (setk 2 ((setk 1 sh e0).1.2.1 + (rw - r5.2.1)) (setk 1 sh e0))).1.2.2.1 + (co - r5.2.2.1))))) = f at hW ⊢
                  generalize va_up ga 3 (upd (ga 3) i ((setk 4 ((setk 2 ((setk 1 sh e0).1.2.1 + (rw - r5.2.1)) (setk 1 sh e0)).1.2.2.2.1 + (rw - r5.2.1)) (setk 2 ((setk 1 sh e0).1.2.1 + (rw - r5.2.1)) (setk 1 sh e0))).1.2.2.1 + (co - r5.2.2.1))) = ga at hW
                  obtain ⟨g0, g1, g2, g3, g4, g5, g6⟩ := rpm_at hW hj hei1
                  refine gj_aload_n C dX3_move_284 rfl ?_
                  refine gj_get C dX3_move_285 hW.1.1 rfl inX3 6 (by decide) w_335 rfl ?_
                  refine gj_iload C dX3_move_288 rfl ?_
                  refine gj_dup2 C dX3_move_290 rfl rfl ?_
                  refine gj_ialdN C 0 dX3_move_291 (hW.1.2.2 5 (by decide) (by decide)) rfl hj (by decide) ?_
                  refine gj_st (st' := [.int (setk 3 ((setk 4 ((setk 2 ((setk 1 sh e0).1.2.1 + (rw - r5.2.1)) (setk 1 sh e0)).1.2.2.2.1 + (rw - r5.2.1)) (setk 2 ((setk 1 sh e0).1.2.1 + (rw - r5.2.1)) (setk 1 sh e0))).1.2.2.1 + (co - r5.2.2.1)) (setk 4 ((setk 2 ((setk 1 sh e0).1.2.1 + (rw - r5.2.1)) (setk 1 sh e0)).1.2.2.2.1 + (rw - r5.2.1)) (setk 2 ((setk 1 sh e0).1.2.1 + (rw - r5.2.1)) (setk 1 sh e0)))).1.2.2.2.2, .int (nI i), .ref (ad 5)]) (by rw [g5]) ?_
                  refine gj_iload C dX3_move_292 rfl ?_
                  refine gj_iadd C dX3_move_294 ?_
                  refine gj_iastN C 0 dX3_move_295 (hW.1.2.2 5 (by decide) (by decide)) rfl hj (by decide) ?_
                  have hW := rpm_st hW hj hei1 5 (by decide) (by decide) ((setk 3 ((setk 4 ((setk 2 ((setk 1 sh e0).1.2.1 + (rw - r5.2.1)) (setk 1 sh e0)).1.2.2.2.1 + (rw - r5.2.1)) (setk 2 ((setk 1 sh e0).1.2.1 + (rw - r5.2.1)) (setk 1 sh e0))).1.2.2.1 + (co - r5.2.2.1)) (setk 4 ((setk 2 ((setk 1 sh e0).1.2.1 + (rw - r5.2.1)) (setk 1 sh e0)).1.2.2.2.1 + (rw - r5.2.1)) (setk 2 ((setk 1 sh e0).1.2.1 + (rw - r5.2.1)) (setk 1 sh e0)))).1.2.2.2.2 + (co - r5.2.2.1))
                  have hei1 := va_up_self (va_up (va_up (va_up (va_up (mapI (phM r5 (rM sh (rw - r5.2.1) (co - r5.2.2.1) r5)) en i) i (some (setk 1 sh e0))) i (some (setk 2 ((setk 1 sh e0).1.2.1 + (rw - r5.2.1)) (setk 1 sh e0)))) i (some (setk 4 ((setk 2 ((setk 1 sh e0).1.2.1 + (rw - r5.2.1)) (setk 1 sh e0)).1.2.2.2.1 + (rw - r5.2.1)) (setk 2 ((setk 1 sh e0).1.2.1 + (rw - r5.2.1)) (setk 1 sh e0))))) i (some (setk 3 ((setk 4 ((setk 2 ((setk 1 sh e0).1.2.1 + (rw - r5.2.1)) (setk 1 sh e0)).1.2.2.2.1 + (rw - r5.2.1)) (setk 2 ((setk 1 sh e0).1.2.1 + (rw - r5.2.1)) (setk 1 sh e0))).1.2.2.1 + (co - r5.2.2.1)) (setk 4 ((setk 2 ((setk 1 sh e0).1.2.1 + (rw - r5.2.1)) (setk 1 sh e0)).1.2.2.2.1 + (rw - r5.2.1)) (setk 2 ((setk 1 sh e0).1.2.1 + (rw - r5.2.1)) (setk 1 sh e0)))))) i (some (setk 5 ((setk 3 ((setk 4 ((setk 2 ((setk 1 sh e0).1.2.1 + (rw - r5.2.1)) (setk 1 sh e0)).1.2.2.2.1 + (rw - r5.2.1)) (setk 2 ((setk 1 sh e0).1.2.1 + (rw - r5.2.1)) (setk 1 sh e0))).1.2.2.1 + (co - r5.2.2.1)) (setk 4 ((setk 2 ((setk 1 sh e0).1.2.1 + (rw - r5.2.1)) (setk 1 sh e0)).1.2.2.2.1 + (rw - r5.2.1)) (setk 2 ((setk 1 sh e0).1.2.1 + (rw - r5.2.1)) (setk 1 sh e0)))).1.2.2.2.2 + (co - r5.2.2.1)) (setk 3 ((setk 4 ((setk 2 ((setk 1 sh e0).1.2.1 + (rw - r5.2.1)) (setk 1 sh e0)).1.2.2.2.1 + (rw - r5.2.1)) (setk 2 ((setk 1 sh e0).1.2.1 + (rw - r5.2.1)) (setk 1 sh e0))).1.2.2.1 + (co - r5.2.2.1)) (setk 4 ((setk 2 ((setk 1 sh e0).1.2.1 + (rw - r5.2.1)) (setk 1 sh e0)).1.2.2.2.1 + (rw - r5.2.1)) (setk 2 ((setk 1 sh e0).1.2.1 + (rw - r5.2.1)) (setk 1 sh e0))))))
                  generalize gm_up f (ad 5) (.inl (cI, 4096, .inl (upd (ga 5) i ((setk 3 ((setk 4 ((setk 2 ((setk 1 sh e0).1.2.1 + (rw - r5.2.1)) (setk 1 sh e0)).1.2.2.2.1 + (rw - r5.2.1)) (setk 2 ((setk 1 sh e0).1.2.1 + (rw - r5.2.1)) (setk 1 sh e0))).1.2.2.1 + (co - r5.2.2.1)) (setk 4 ((setk 2 ((setk 1 sh e0).1.2.1 + (rw - r5.2.1)) (setk 1 sh e0)).1.2.2.2.1 + (rw - r5.2.1)) (setk 2 ((setk 1 sh e0).1.2.1 + (rw - r5.2.1)) (setk 1 sh e0)))).1.2.2.2.2 + (co - r5.2.2.1))))) = f at hW ⊢
                  generalize va_up ga 5 (upd (ga 5) i ((setk 3 ((setk 4 ((setk 2 ((setk 1 sh e0).1.2.1 + (rw - r5.2.1)) (setk 1 sh e0)).1.2.2.2.1 + (rw - r5.2.1)) (setk 2 ((setk 1 sh e0).1.2.1 + (rw - r5.2.1)) (setk 1 sh e0))).1.2.2.1 + (co - r5.2.2.1)) (setk 4 ((setk 2 ((setk 1 sh e0).1.2.1 + (rw - r5.2.1)) (setk 1 sh e0)).1.2.2.2.1 + (rw - r5.2.1)) (setk 2 ((setk 1 sh e0).1.2.1 + (rw - r5.2.1)) (setk 1 sh e0)))).1.2.2.2.2 + (co - r5.2.2.1))) = ga at hW
                  obtain ⟨g0, g1, g2, g3, g4, g5, g6⟩ := rpm_at hW hj hei1
                  refine gj_iinc (v := (nI ((cbE (chM r5 (rM sh (rw - r5.2.1) (co - r5.2.2.1) r5)) en i) + 1))) (lw' := [some (.ref y), some (.int sh), some (.int rw), some (.int co), some (.int 1), some (.int (rw - r5.2.1)), some (.int (co - r5.2.2.1)), some (.int 1), some (.int (nI ((cbE (chM r5 (rM sh (rw - r5.2.1) (co - r5.2.2.1) r5)) en i) + 1))), some (.int (nI i)), some (.int (bI (decide (rIn e0.1 r5))))]) C dX3_move_296 rfl (nI_1 (cbE (chM r5 (rM sh (rw - r5.2.1) (co - r5.2.2.1) r5)) en i)) (by decide) rfl rfl ?_
                  refine gj_iinc (v := (nI (i + 1))) (lw' := [some (.ref y), some (.int sh), some (.int rw), some (.int co), some (.int 1), some (.int (rw - r5.2.1)), some (.int (co - r5.2.2.1)), some (.int 1), some (.int (nI ((cbE (chM r5 (rM sh (rw - r5.2.1) (co - r5.2.2.1) r5)) en i) + 1))), some (.int (nI (i + 1))), some (.int (bI (decide (rIn e0.1 r5))))]) C dX3_move_299 rfl (nI_1 i) (by decide) rfl rfl ?_
                  refine gj_goto (tgt := 138) C dX3_move_302 (by decide) ?_
                  refine gj_un 10 (lw' := [some (.ref y), some (.int sh), some (.int rw), some (.int co), some (.int 1), some (.int (rw - r5.2.1)), some (.int (co - r5.2.2.1)), some (.int 1), some (.int (nI ((cbE (chM r5 (rM sh (rw - r5.2.1) (co - r5.2.2.1) r5)) en i) + 1))), some (.int (nI (i + 1))), none]) rfl ?_
                  have h9 := ih (i + 1) f (by omega) (by rw [mapI_s hei, phM_mv (bI_p1 c1)]; rw [bx_uu, bx_uu, bx_uu, bx_uu] at hW; exact ⟨ad, ga, _, r5, by rw [cn_same (mapI_at.trans hei)]; exact hW⟩)
                  rw [cb_t hei (chM_1 (fun h => c4 (sameM_mv.mp h).2.2) (bI_p1 c1))] at h9
                  exact h9
                · refine gj_goto (tgt := 299) C dX3_move_237 (by decide) ?_
                  refine gj_iinc (v := (nI (i + 1))) (lw' := [some (.ref y), some (.int sh), some (.int rw), some (.int co), some (.int 1), some (.int (rw - r5.2.1)), some (.int (co - r5.2.2.1)), some (.int 1), some (.int (nI (cbE (chM r5 (rM sh (rw - r5.2.1) (co - r5.2.2.1) r5)) en i))), some (.int (nI (i + 1))), some (.int (bI (decide (rIn e0.1 r5))))]) C dX3_move_299 rfl (nI_1 i) (by decide) rfl rfl ?_
                  refine gj_goto (tgt := 138) C dX3_move_302 (by decide) ?_
                  refine gj_un 10 (lw' := [some (.ref y), some (.int sh), some (.int rw), some (.int co), some (.int 1), some (.int (rw - r5.2.1)), some (.int (co - r5.2.2.1)), some (.int 1), some (.int (nI (cbE (chM r5 (rM sh (rw - r5.2.1) (co - r5.2.2.1) r5)) en i))), some (.int (nI (i + 1))), none]) rfl ?_
                  have h9 := ih (i + 1) f (by omega) (by rw [mapI_k hei (phM_same (sameM_mv.mpr ⟨c2, c3, c4⟩) (sameM_eq (sameM_mv.mpr ⟨c2, c3, c4⟩)) e0)]; exact ⟨ad, ga, _, r5, hW⟩)
                  rw [cb_f hei (chM_0 (sameM_mv.mpr ⟨c2, c3, c4⟩) e0)] at h9
                  exact h9
          · refine gj_aload_n C dX3_move_179 rfl ?_
            refine gj_iload C dX3_move_180 rfl ?_
            refine gj_iload_n C dX3_move_182 rfl ?_
            refine gj_iload_n C dX3_move_183 rfl ?_
            refine gj_iload_n C dX3_move_184 rfl ?_
            refine gj_aload_n C dX3_move_185 rfl ?_
            refine gj_get C dX3_move_186 hW.1.1 rfl inX3 13 (by decide) w_342 rfl ?_
            refine gj_iload C dX3_move_189 rfl ?_
            refine gj_iadd C dX3_move_191 ?_
            refine gj_aload_n C dX3_move_192 rfl ?_
            refine gj_get C dX3_move_193 hW.1.1 rfl inX3 14 (by decide) w_343 rfl ?_
            refine gj_iload C dX3_move_196 rfl ?_
            refine gj_iadd C dX3_move_198 ?_
            refine gj_cV (As := [.int (nI i), .int sh, .int rw, .int co, .int (r5.2.2.2.1 + (rw - r5.2.1)), .int (r5.2.2.2.2 + (co - r5.2.2.1))]) (rest := []) (nc := 0) (ns := 0) C hV (k_MisIn l D cI cN cZ cJ f y _ _ _ ml ad ga _ r5 _ i sh rw co (r5.2.2.2.1 + (rw - r5.2.1)) (r5.2.2.2.2 + (co - r5.2.2.1)) hW hj) dX3_move_199 rfl w_480 rfl w_477 w_2 w_479 ws_25 hd_X3_isIn rfl hW.1.1 rfl ⟨Nat.le_of_ble_eq_true rfl, Nat.le_of_ble_eq_true rfl⟩ (Nat.le_of_ble_eq_true rfl) (by decide) (by decide) (fun v u hp => ?_)
            refine gj_rt (st' := [.int (bI (inb _ (sh, rw, co, (r5.2.2.2.1 + (rw - r5.2.1)), (r5.2.2.2.2 + (co - r5.2.2.1))) i))]) hp.1 hp.2 rfl ?_
            refine gj_st (st' := [.int (bI (decide (rIn e0.1 (rM sh (rw - r5.2.1) (co - r5.2.2.1) r5))))]) (by rw [inb_s (mapI_at.trans hei)]; simp only [mv_eq]) ?_
            refine gj_if_eq (tgt := 214) C dX3_move_202 (by decide) (fun c5 => ?_) (fun c5 => ?_)
            · refine gj_iload C dX3_move_214 rfl ?_
              refine gj_if_eqT (tgt := 299) C dX3_move_216 (by decide) c1 ?_
              refine gj_iinc (v := (nI (i + 1))) (lw' := [some (.ref y), some (.int sh), some (.int rw), some (.int co), some (.int 1), some (.int (rw - r5.2.1)), some (.int (co - r5.2.2.1)), some (.int 1), some (.int (nI (cbE (chM r5 (rM sh (rw - r5.2.1) (co - r5.2.2.1) r5)) en i))), some (.int (nI (i + 1))), some (.int (bI (decide (rIn e0.1 r5))))]) C dX3_move_299 rfl (nI_1 i) (by decide) rfl rfl ?_
              refine gj_goto (tgt := 138) C dX3_move_302 (by decide) ?_
              refine gj_un 10 (lw' := [some (.ref y), some (.int sh), some (.int rw), some (.int co), some (.int 1), some (.int (rw - r5.2.1)), some (.int (co - r5.2.2.1)), some (.int 1), some (.int (nI (cbE (chM r5 (rM sh (rw - r5.2.1) (co - r5.2.2.1) r5)) en i))), some (.int (nI (i + 1))), none]) rfl ?_
              have h9 := ih (i + 1) f (by omega) (by rw [mapI_k hei (phM_3 (bI_p0 c1) (bI_p0 c5))]; exact ⟨ad, ga, _, r5, hW⟩)
              rw [cb_f hei (chM_3 (bI_p0 c1) (bI_p0 c5))] at h9
              exact h9
            · refine gj_aload_n C dX3_move_205 rfl ?_
              refine gj_iload C dX3_move_206 rfl ?_
              refine gj_cV (As := [.int (nI i)]) (rest := []) (nc := 0) (ns := 0) C hV (k_Mgo l D cI cN cZ cJ f y _ _ _ ml ad _ _ r5 _ i hW hj) dX3_move_208 rfl w_409 rfl w_406 w_2 w_408 ws_17 hd_X3_go rfl hW.1.1 rfl ⟨Nat.le_of_ble_eq_true rfl, Nat.le_of_ble_eq_true rfl⟩ (Nat.le_of_ble_eq_true rfl) (by decide) (by decide) (fun v u hp => ?_)
              refine gj_rt (st' := []) hp.1 hp.2 rfl ?_
              refine gj_iinc (v := (nI ((cbE (chM r5 (rM sh (rw - r5.2.1) (co - r5.2.2.1) r5)) en i) + 1))) (lw' := [some (.ref y), some (.int sh), some (.int rw), some (.int co), some (.int 1), some (.int (rw - r5.2.1)), some (.int (co - r5.2.2.1)), some (.int 1), some (.int (nI ((cbE (chM r5 (rM sh (rw - r5.2.1) (co - r5.2.2.1) r5)) en i) + 1))), some (.int (nI i)), some (.int (bI (decide (rIn e0.1 r5))))]) C dX3_move_211 rfl (nI_1 (cbE (chM r5 (rM sh (rw - r5.2.1) (co - r5.2.2.1) r5)) en i)) (by decide) rfl rfl ?_
              refine gj_iload C dX3_move_214 rfl ?_
              refine gj_if_eqT (tgt := 299) C dX3_move_216 (by decide) c1 ?_
              refine gj_iinc (v := (nI (i + 1))) (lw' := [some (.ref y), some (.int sh), some (.int rw), some (.int co), some (.int 1), some (.int (rw - r5.2.1)), some (.int (co - r5.2.2.1)), some (.int 1), some (.int (nI ((cbE (chM r5 (rM sh (rw - r5.2.1) (co - r5.2.2.1) r5)) en i) + 1))), some (.int (nI (i + 1))), some (.int (bI (decide (rIn e0.1 r5))))]) C dX3_move_299 rfl (nI_1 i) (by decide) rfl rfl ?_
              refine gj_goto (tgt := 138) C dX3_move_302 (by decide) ?_
              refine gj_un 10 (lw' := [some (.ref y), some (.int sh), some (.int rw), some (.int co), some (.int 1), some (.int (rw - r5.2.1)), some (.int (co - r5.2.2.1)), some (.int 1), some (.int (nI ((cbE (chM r5 (rM sh (rw - r5.2.1) (co - r5.2.2.1) r5)) en i) + 1))), some (.int (nI (i + 1))), none]) rfl ?_
              have h9 := ih (i + 1) _ (by omega) (by rw [mapI_s hei, phM_2 (bI_p0 c1) (bI_p1 c5)]; exact ⟨ad, _, _, r5, rpm_go hW hj (mapI_at.trans hei)⟩)
              rw [cb_t hei (chM_2' (bI_p0 c1) (bI_p1 c5) sameM_eq)] at h9
              exact h9
    refine gj_iload_n C dX3_move_0 rfl ?_
    refine gj_iconst (v := 0) C dX3_move_1 (by decide) ?_
    refine gj_bipush (v := 7) C dX3_move_2 (by decide) ?_
    refine gj_cS (As := [.int sh, .int 0, .int 7]) (rest := []) (nc := 0) (ns := 0) C hV (k_within l D (tyl cI cN cZ cJ) f sh 0 7) dX3_move_4 rfl w_392 rfl w_390 w_2 w_391 hd_X3_within rfl ⟨Nat.le_of_ble_eq_true rfl, Nat.le_of_ble_eq_true rfl⟩ (Nat.le_of_ble_eq_true rfl) (by decide) (by decide) (fun v u hp20 => ?_)
    refine gj_rt (st' := [.int (bI (decide (wn sh 0 7)))]) hp20.1 hp20.2 rfl ?_
    refine gj_if_eq (tgt := 35) C dX3_move_7 (by decide) (fun c21 => ?_) (fun c21 => ?_)
    · refine gj_iconst (v := 0) C dX3_move_35 (by decide) ?_
      refine gj_istore (lw' := [some (.ref y), some (.int sh), some (.int rw), some (.int co), some (.int 0), none, none, none, none, none, none]) C dX3_move_36 (by decide) rfl rfl ?_
      refine gj_iload_n C dX3_move_38 rfl ?_
      refine gj_aload_n C dX3_move_39 rfl ?_
      refine gj_get C dX3_move_40 hW.1.1 rfl inX3 11 (by decide) w_340 rfl ?_
      refine gj_isub C dX3_move_43 ?_
      refine gj_istore (lw' := [some (.ref y), some (.int sh), some (.int rw), some (.int co), some (.int 0), some (.int (rw - r5.2.1)), none, none, none, none, none]) C dX3_move_44 (by decide) rfl rfl ?_
      refine gj_iload_n C dX3_move_46 rfl ?_
      refine gj_aload_n C dX3_move_47 rfl ?_
      refine gj_get C dX3_move_48 hW.1.1 rfl inX3 12 (by decide) w_341 rfl ?_
      refine gj_isub C dX3_move_51 ?_
      refine gj_istore (lw' := [some (.ref y), some (.int sh), some (.int rw), some (.int co), some (.int 0), some (.int (rw - r5.2.1)), some (.int (co - r5.2.2.1)), none, none, none, none]) C dX3_move_52 (by decide) rfl rfl ?_
      refine gj_aload_n C dX3_move_54 rfl ?_
      refine gj_get C dX3_move_55 hW.1.1 rfl inX3 13 (by decide) w_342 rfl ?_
      refine gj_iload C dX3_move_58 rfl ?_
      refine gj_iadd C dX3_move_60 ?_
      refine gj_ldc (v := 1048576) C dX3_move_61 w_393 ?_
      refine gj_icmp_gt (tgt := 83) C dX3_move_63 (by decide) (fun c22 => ?_) (fun c22 => ?_)
      · refine gj_iconst (v := 0) C dX3_move_83 (by decide) ?_
        refine gj_istore (lw' := [some (.ref y), some (.int sh), some (.int rw), some (.int co), some (.int 0), some (.int (rw - r5.2.1)), some (.int (co - r5.2.2.1)), some (.int 0), none, none, none]) C dX3_move_84 (by decide) rfl rfl ?_
        refine gj_aload_n C dX3_move_86 rfl ?_
        refine gj_iload C dX3_move_87 rfl ?_
        refine gj_if_eqT (tgt := 104) C dX3_move_89 (by decide) rfl ?_
        refine gj_iconst (v := 1) C dX3_move_104 (by decide) ?_
        refine gj_goto (tgt := 120) C dX3_move_105 (by decide) ?_
        refine gj_put C dX3_move_120 hW.1.1 rfl inX3 tyX3_ok nmX3 0 (by decide) w_329 rfl rfl rfl (Nat.le_of_ble_eq_true rfl) ?_
        refine gj_f (f' := gm_up f y (cMo 1 ad (nI (cn en 4096)) 1 r5 (nI ml.length))) rfl ?_
        have hW := rpm_cd hW 1 (nI (cn en 4096))
        generalize gm_up f y (cMo 1 ad (nI (cn en 4096)) 1 r5 (nI ml.length)) = f at hW ⊢
        refine gj_aload_n C dX3_move_123 rfl ?_
        refine gj_get C dX3_move_124 hW.1.1 rfl inX3 0 (by decide) w_329 rfl ?_
        refine gj_if_eqF (tgt := 132) C dX3_move_127 (by decide) (by decide) ?_
        refine gj_iconst (v := 0) C dX3_move_130 (by decide) ?_
        exact gj_iret C hr hlk dX3_move_131 (⟨_, rfl, Or.inr (Or.inl ⟨Or.inl (by have qc21 := bI_p0 c21; revert qc21; simp only [i_le, i_lt, i_eq, t_0, t_1, t_5, t_7, t_8, t_16383, t_16384, t_32768, t_1048576, vs, vl, vc, vn, ll, rF, rL, rMeet, rIn, rY, if_true, if_false, Bool.false_eq_true, ite_true, ite_false, reduceIte, wn, vr]; (try intros); omega), ⟨ad, ga, _, r5, hW⟩⟩)⟩)
      · refine gj_aload_n C dX3_move_66 rfl ?_
        refine gj_get C dX3_move_67 hW.1.1 rfl inX3 14 (by decide) w_343 rfl ?_
        refine gj_iload C dX3_move_70 rfl ?_
        refine gj_iadd C dX3_move_72 ?_
        refine gj_sipush (v := 16384) C dX3_move_73 (by decide) ?_
        refine gj_icmp_gt (tgt := 83) C dX3_move_76 (by decide) (fun c23 => ?_) (fun c23 => ?_)
        · refine gj_iconst (v := 0) C dX3_move_83 (by decide) ?_
          refine gj_istore (lw' := [some (.ref y), some (.int sh), some (.int rw), some (.int co), some (.int 0), some (.int (rw - r5.2.1)), some (.int (co - r5.2.2.1)), some (.int 0), none, none, none]) C dX3_move_84 (by decide) rfl rfl ?_
          refine gj_aload_n C dX3_move_86 rfl ?_
          refine gj_iload C dX3_move_87 rfl ?_
          refine gj_if_eqT (tgt := 104) C dX3_move_89 (by decide) rfl ?_
          refine gj_iconst (v := 1) C dX3_move_104 (by decide) ?_
          refine gj_goto (tgt := 120) C dX3_move_105 (by decide) ?_
          refine gj_put C dX3_move_120 hW.1.1 rfl inX3 tyX3_ok nmX3 0 (by decide) w_329 rfl rfl rfl (Nat.le_of_ble_eq_true rfl) ?_
          refine gj_f (f' := gm_up f y (cMo 1 ad (nI (cn en 4096)) 1 r5 (nI ml.length))) rfl ?_
          have hW := rpm_cd hW 1 (nI (cn en 4096))
          generalize gm_up f y (cMo 1 ad (nI (cn en 4096)) 1 r5 (nI ml.length)) = f at hW ⊢
          refine gj_aload_n C dX3_move_123 rfl ?_
          refine gj_get C dX3_move_124 hW.1.1 rfl inX3 0 (by decide) w_329 rfl ?_
          refine gj_if_eqF (tgt := 132) C dX3_move_127 (by decide) (by decide) ?_
          refine gj_iconst (v := 0) C dX3_move_130 (by decide) ?_
          exact gj_iret C hr hlk dX3_move_131 (⟨_, rfl, Or.inr (Or.inl ⟨Or.inl (by have qc21 := bI_p0 c21; revert qc21; simp only [i_le, i_lt, i_eq, t_0, t_1, t_5, t_7, t_8, t_16383, t_16384, t_32768, t_1048576, vs, vl, vc, vn, ll, rF, rL, rMeet, rIn, rY, if_true, if_false, Bool.false_eq_true, ite_true, ite_false, reduceIte, wn, vr]; (try intros); omega), ⟨ad, ga, _, r5, hW⟩⟩)⟩)
        · refine gj_iconst (v := 1) C dX3_move_79 (by decide) ?_
          refine gj_goto (tgt := 84) C dX3_move_80 (by decide) ?_
          refine gj_istore (lw' := [some (.ref y), some (.int sh), some (.int rw), some (.int co), some (.int 0), some (.int (rw - r5.2.1)), some (.int (co - r5.2.2.1)), some (.int 1), none, none, none]) C dX3_move_84 (by decide) rfl rfl ?_
          refine gj_aload_n C dX3_move_86 rfl ?_
          refine gj_iload C dX3_move_87 rfl ?_
          refine gj_if_eqT (tgt := 104) C dX3_move_89 (by decide) rfl ?_
          refine gj_iconst (v := 1) C dX3_move_104 (by decide) ?_
          refine gj_goto (tgt := 120) C dX3_move_105 (by decide) ?_
          refine gj_put C dX3_move_120 hW.1.1 rfl inX3 tyX3_ok nmX3 0 (by decide) w_329 rfl rfl rfl (Nat.le_of_ble_eq_true rfl) ?_
          refine gj_f (f' := gm_up f y (cMo 1 ad (nI (cn en 4096)) 1 r5 (nI ml.length))) rfl ?_
          have hW := rpm_cd hW 1 (nI (cn en 4096))
          generalize gm_up f y (cMo 1 ad (nI (cn en 4096)) 1 r5 (nI ml.length)) = f at hW ⊢
          refine gj_aload_n C dX3_move_123 rfl ?_
          refine gj_get C dX3_move_124 hW.1.1 rfl inX3 0 (by decide) w_329 rfl ?_
          refine gj_if_eqF (tgt := 132) C dX3_move_127 (by decide) (by decide) ?_
          refine gj_iconst (v := 0) C dX3_move_130 (by decide) ?_
          exact gj_iret C hr hlk dX3_move_131 (⟨_, rfl, Or.inr (Or.inl ⟨Or.inl (by have qc21 := bI_p0 c21; revert qc21; simp only [i_le, i_lt, i_eq, t_0, t_1, t_5, t_7, t_8, t_16383, t_16384, t_32768, t_1048576, vs, vl, vc, vn, ll, rF, rL, rMeet, rIn, rY, if_true, if_false, Bool.false_eq_true, ite_true, ite_false, reduceIte, wn, vr]; (try intros); omega), ⟨ad, ga, _, r5, hW⟩⟩)⟩)
    · refine gj_iload_n C dX3_move_10 rfl ?_
      refine gj_iconst (v := 1) C dX3_move_11 (by decide) ?_
      refine gj_ldc (v := 1048576) C dX3_move_12 w_393 ?_
      refine gj_cS (As := [.int rw, .int 1, .int 1048576]) (rest := []) (nc := 0) (ns := 0) C hV (k_within l D (tyl cI cN cZ cJ) f rw 1 1048576) dX3_move_14 rfl w_392 rfl w_390 w_2 w_391 hd_X3_within rfl ⟨Nat.le_of_ble_eq_true rfl, Nat.le_of_ble_eq_true rfl⟩ (Nat.le_of_ble_eq_true rfl) (by decide) (by decide) (fun v u hp24 => ?_)
      refine gj_rt (st' := [.int (bI (decide (wn rw 1 1048576)))]) hp24.1 hp24.2 rfl ?_
      refine gj_if_eq (tgt := 35) C dX3_move_17 (by decide) (fun c25 => ?_) (fun c25 => ?_)
      · refine gj_iconst (v := 0) C dX3_move_35 (by decide) ?_
        refine gj_istore (lw' := [some (.ref y), some (.int sh), some (.int rw), some (.int co), some (.int 0), none, none, none, none, none, none]) C dX3_move_36 (by decide) rfl rfl ?_
        refine gj_iload_n C dX3_move_38 rfl ?_
        refine gj_aload_n C dX3_move_39 rfl ?_
        refine gj_get C dX3_move_40 hW.1.1 rfl inX3 11 (by decide) w_340 rfl ?_
        refine gj_isub C dX3_move_43 ?_
        refine gj_istore (lw' := [some (.ref y), some (.int sh), some (.int rw), some (.int co), some (.int 0), some (.int (rw - r5.2.1)), none, none, none, none, none]) C dX3_move_44 (by decide) rfl rfl ?_
        refine gj_iload_n C dX3_move_46 rfl ?_
        refine gj_aload_n C dX3_move_47 rfl ?_
        refine gj_get C dX3_move_48 hW.1.1 rfl inX3 12 (by decide) w_341 rfl ?_
        refine gj_isub C dX3_move_51 ?_
        refine gj_istore (lw' := [some (.ref y), some (.int sh), some (.int rw), some (.int co), some (.int 0), some (.int (rw - r5.2.1)), some (.int (co - r5.2.2.1)), none, none, none, none]) C dX3_move_52 (by decide) rfl rfl ?_
        refine gj_aload_n C dX3_move_54 rfl ?_
        refine gj_get C dX3_move_55 hW.1.1 rfl inX3 13 (by decide) w_342 rfl ?_
        refine gj_iload C dX3_move_58 rfl ?_
        refine gj_iadd C dX3_move_60 ?_
        refine gj_ldc (v := 1048576) C dX3_move_61 w_393 ?_
        refine gj_icmp_gt (tgt := 83) C dX3_move_63 (by decide) (fun c26 => ?_) (fun c26 => ?_)
        · refine gj_iconst (v := 0) C dX3_move_83 (by decide) ?_
          refine gj_istore (lw' := [some (.ref y), some (.int sh), some (.int rw), some (.int co), some (.int 0), some (.int (rw - r5.2.1)), some (.int (co - r5.2.2.1)), some (.int 0), none, none, none]) C dX3_move_84 (by decide) rfl rfl ?_
          refine gj_aload_n C dX3_move_86 rfl ?_
          refine gj_iload C dX3_move_87 rfl ?_
          refine gj_if_eqT (tgt := 104) C dX3_move_89 (by decide) rfl ?_
          refine gj_iconst (v := 1) C dX3_move_104 (by decide) ?_
          refine gj_goto (tgt := 120) C dX3_move_105 (by decide) ?_
          refine gj_put C dX3_move_120 hW.1.1 rfl inX3 tyX3_ok nmX3 0 (by decide) w_329 rfl rfl rfl (Nat.le_of_ble_eq_true rfl) ?_
          refine gj_f (f' := gm_up f y (cMo 1 ad (nI (cn en 4096)) 1 r5 (nI ml.length))) rfl ?_
          have hW := rpm_cd hW 1 (nI (cn en 4096))
          generalize gm_up f y (cMo 1 ad (nI (cn en 4096)) 1 r5 (nI ml.length)) = f at hW ⊢
          refine gj_aload_n C dX3_move_123 rfl ?_
          refine gj_get C dX3_move_124 hW.1.1 rfl inX3 0 (by decide) w_329 rfl ?_
          refine gj_if_eqF (tgt := 132) C dX3_move_127 (by decide) (by decide) ?_
          refine gj_iconst (v := 0) C dX3_move_130 (by decide) ?_
          exact gj_iret C hr hlk dX3_move_131 (⟨_, rfl, Or.inr (Or.inl ⟨Or.inl (by have qc21 := bI_p1 c21; have qc25 := bI_p0 c25; revert qc21 qc25; simp only [i_le, i_lt, i_eq, t_0, t_1, t_5, t_7, t_8, t_16383, t_16384, t_32768, t_1048576, vs, vl, vc, vn, ll, rF, rL, rMeet, rIn, rY, if_true, if_false, Bool.false_eq_true, ite_true, ite_false, reduceIte, wn, vr]; (try intros); omega), ⟨ad, ga, _, r5, hW⟩⟩)⟩)
        · refine gj_aload_n C dX3_move_66 rfl ?_
          refine gj_get C dX3_move_67 hW.1.1 rfl inX3 14 (by decide) w_343 rfl ?_
          refine gj_iload C dX3_move_70 rfl ?_
          refine gj_iadd C dX3_move_72 ?_
          refine gj_sipush (v := 16384) C dX3_move_73 (by decide) ?_
          refine gj_icmp_gt (tgt := 83) C dX3_move_76 (by decide) (fun c27 => ?_) (fun c27 => ?_)
          · refine gj_iconst (v := 0) C dX3_move_83 (by decide) ?_
            refine gj_istore (lw' := [some (.ref y), some (.int sh), some (.int rw), some (.int co), some (.int 0), some (.int (rw - r5.2.1)), some (.int (co - r5.2.2.1)), some (.int 0), none, none, none]) C dX3_move_84 (by decide) rfl rfl ?_
            refine gj_aload_n C dX3_move_86 rfl ?_
            refine gj_iload C dX3_move_87 rfl ?_
            refine gj_if_eqT (tgt := 104) C dX3_move_89 (by decide) rfl ?_
            refine gj_iconst (v := 1) C dX3_move_104 (by decide) ?_
            refine gj_goto (tgt := 120) C dX3_move_105 (by decide) ?_
            refine gj_put C dX3_move_120 hW.1.1 rfl inX3 tyX3_ok nmX3 0 (by decide) w_329 rfl rfl rfl (Nat.le_of_ble_eq_true rfl) ?_
            refine gj_f (f' := gm_up f y (cMo 1 ad (nI (cn en 4096)) 1 r5 (nI ml.length))) rfl ?_
            have hW := rpm_cd hW 1 (nI (cn en 4096))
            generalize gm_up f y (cMo 1 ad (nI (cn en 4096)) 1 r5 (nI ml.length)) = f at hW ⊢
            refine gj_aload_n C dX3_move_123 rfl ?_
            refine gj_get C dX3_move_124 hW.1.1 rfl inX3 0 (by decide) w_329 rfl ?_
            refine gj_if_eqF (tgt := 132) C dX3_move_127 (by decide) (by decide) ?_
            refine gj_iconst (v := 0) C dX3_move_130 (by decide) ?_
            exact gj_iret C hr hlk dX3_move_131 (⟨_, rfl, Or.inr (Or.inl ⟨Or.inl (by have qc21 := bI_p1 c21; have qc25 := bI_p0 c25; revert qc21 qc25; simp only [i_le, i_lt, i_eq, t_0, t_1, t_5, t_7, t_8, t_16383, t_16384, t_32768, t_1048576, vs, vl, vc, vn, ll, rF, rL, rMeet, rIn, rY, if_true, if_false, Bool.false_eq_true, ite_true, ite_false, reduceIte, wn, vr]; (try intros); omega), ⟨ad, ga, _, r5, hW⟩⟩)⟩)
          · refine gj_iconst (v := 1) C dX3_move_79 (by decide) ?_
            refine gj_goto (tgt := 84) C dX3_move_80 (by decide) ?_
            refine gj_istore (lw' := [some (.ref y), some (.int sh), some (.int rw), some (.int co), some (.int 0), some (.int (rw - r5.2.1)), some (.int (co - r5.2.2.1)), some (.int 1), none, none, none]) C dX3_move_84 (by decide) rfl rfl ?_
            refine gj_aload_n C dX3_move_86 rfl ?_
            refine gj_iload C dX3_move_87 rfl ?_
            refine gj_if_eqT (tgt := 104) C dX3_move_89 (by decide) rfl ?_
            refine gj_iconst (v := 1) C dX3_move_104 (by decide) ?_
            refine gj_goto (tgt := 120) C dX3_move_105 (by decide) ?_
            refine gj_put C dX3_move_120 hW.1.1 rfl inX3 tyX3_ok nmX3 0 (by decide) w_329 rfl rfl rfl (Nat.le_of_ble_eq_true rfl) ?_
            refine gj_f (f' := gm_up f y (cMo 1 ad (nI (cn en 4096)) 1 r5 (nI ml.length))) rfl ?_
            have hW := rpm_cd hW 1 (nI (cn en 4096))
            generalize gm_up f y (cMo 1 ad (nI (cn en 4096)) 1 r5 (nI ml.length)) = f at hW ⊢
            refine gj_aload_n C dX3_move_123 rfl ?_
            refine gj_get C dX3_move_124 hW.1.1 rfl inX3 0 (by decide) w_329 rfl ?_
            refine gj_if_eqF (tgt := 132) C dX3_move_127 (by decide) (by decide) ?_
            refine gj_iconst (v := 0) C dX3_move_130 (by decide) ?_
            exact gj_iret C hr hlk dX3_move_131 (⟨_, rfl, Or.inr (Or.inl ⟨Or.inl (by have qc21 := bI_p1 c21; have qc25 := bI_p0 c25; revert qc21 qc25; simp only [i_le, i_lt, i_eq, t_0, t_1, t_5, t_7, t_8, t_16383, t_16384, t_32768, t_1048576, vs, vl, vc, vn, ll, rF, rL, rMeet, rIn, rY, if_true, if_false, Bool.false_eq_true, ite_true, ite_false, reduceIte, wn, vr]; (try intros); omega), ⟨ad, ga, _, r5, hW⟩⟩)⟩)
      · refine gj_iload_n C dX3_move_20 rfl ?_
        refine gj_iconst (v := 1) C dX3_move_21 (by decide) ?_
        refine gj_sipush (v := 16384) C dX3_move_22 (by decide) ?_
        refine gj_cS (As := [.int co, .int 1, .int 16384]) (rest := []) (nc := 0) (ns := 0) C hV (k_within l D (tyl cI cN cZ cJ) f co 1 16384) dX3_move_25 rfl w_392 rfl w_390 w_2 w_391 hd_X3_within rfl ⟨Nat.le_of_ble_eq_true rfl, Nat.le_of_ble_eq_true rfl⟩ (Nat.le_of_ble_eq_true rfl) (by decide) (by decide) (fun v u hp28 => ?_)
        refine gj_rt (st' := [.int (bI (decide (wn co 1 16384)))]) hp28.1 hp28.2 rfl ?_
        refine gj_if_eq (tgt := 35) C dX3_move_28 (by decide) (fun c29 => ?_) (fun c29 => ?_)
        · refine gj_iconst (v := 0) C dX3_move_35 (by decide) ?_
          refine gj_istore (lw' := [some (.ref y), some (.int sh), some (.int rw), some (.int co), some (.int 0), none, none, none, none, none, none]) C dX3_move_36 (by decide) rfl rfl ?_
          refine gj_iload_n C dX3_move_38 rfl ?_
          refine gj_aload_n C dX3_move_39 rfl ?_
          refine gj_get C dX3_move_40 hW.1.1 rfl inX3 11 (by decide) w_340 rfl ?_
          refine gj_isub C dX3_move_43 ?_
          refine gj_istore (lw' := [some (.ref y), some (.int sh), some (.int rw), some (.int co), some (.int 0), some (.int (rw - r5.2.1)), none, none, none, none, none]) C dX3_move_44 (by decide) rfl rfl ?_
          refine gj_iload_n C dX3_move_46 rfl ?_
          refine gj_aload_n C dX3_move_47 rfl ?_
          refine gj_get C dX3_move_48 hW.1.1 rfl inX3 12 (by decide) w_341 rfl ?_
          refine gj_isub C dX3_move_51 ?_
          refine gj_istore (lw' := [some (.ref y), some (.int sh), some (.int rw), some (.int co), some (.int 0), some (.int (rw - r5.2.1)), some (.int (co - r5.2.2.1)), none, none, none, none]) C dX3_move_52 (by decide) rfl rfl ?_
          refine gj_aload_n C dX3_move_54 rfl ?_
          refine gj_get C dX3_move_55 hW.1.1 rfl inX3 13 (by decide) w_342 rfl ?_
          refine gj_iload C dX3_move_58 rfl ?_
          refine gj_iadd C dX3_move_60 ?_
          refine gj_ldc (v := 1048576) C dX3_move_61 w_393 ?_
          refine gj_icmp_gt (tgt := 83) C dX3_move_63 (by decide) (fun c30 => ?_) (fun c30 => ?_)
          · refine gj_iconst (v := 0) C dX3_move_83 (by decide) ?_
            refine gj_istore (lw' := [some (.ref y), some (.int sh), some (.int rw), some (.int co), some (.int 0), some (.int (rw - r5.2.1)), some (.int (co - r5.2.2.1)), some (.int 0), none, none, none]) C dX3_move_84 (by decide) rfl rfl ?_
            refine gj_aload_n C dX3_move_86 rfl ?_
            refine gj_iload C dX3_move_87 rfl ?_
            refine gj_if_eqT (tgt := 104) C dX3_move_89 (by decide) rfl ?_
            refine gj_iconst (v := 1) C dX3_move_104 (by decide) ?_
            refine gj_goto (tgt := 120) C dX3_move_105 (by decide) ?_
            refine gj_put C dX3_move_120 hW.1.1 rfl inX3 tyX3_ok nmX3 0 (by decide) w_329 rfl rfl rfl (Nat.le_of_ble_eq_true rfl) ?_
            refine gj_f (f' := gm_up f y (cMo 1 ad (nI (cn en 4096)) 1 r5 (nI ml.length))) rfl ?_
            have hW := rpm_cd hW 1 (nI (cn en 4096))
            generalize gm_up f y (cMo 1 ad (nI (cn en 4096)) 1 r5 (nI ml.length)) = f at hW ⊢
            refine gj_aload_n C dX3_move_123 rfl ?_
            refine gj_get C dX3_move_124 hW.1.1 rfl inX3 0 (by decide) w_329 rfl ?_
            refine gj_if_eqF (tgt := 132) C dX3_move_127 (by decide) (by decide) ?_
            refine gj_iconst (v := 0) C dX3_move_130 (by decide) ?_
            exact gj_iret C hr hlk dX3_move_131 (⟨_, rfl, Or.inr (Or.inl ⟨Or.inl (by have qc21 := bI_p1 c21; have qc25 := bI_p1 c25; have qc29 := bI_p0 c29; revert qc21 qc25 qc29; simp only [i_le, i_lt, i_eq, t_0, t_1, t_5, t_7, t_8, t_16383, t_16384, t_32768, t_1048576, vs, vl, vc, vn, ll, rF, rL, rMeet, rIn, rY, if_true, if_false, Bool.false_eq_true, ite_true, ite_false, reduceIte, wn, vr]; (try intros); omega), ⟨ad, ga, _, r5, hW⟩⟩)⟩)
          · refine gj_aload_n C dX3_move_66 rfl ?_
            refine gj_get C dX3_move_67 hW.1.1 rfl inX3 14 (by decide) w_343 rfl ?_
            refine gj_iload C dX3_move_70 rfl ?_
            refine gj_iadd C dX3_move_72 ?_
            refine gj_sipush (v := 16384) C dX3_move_73 (by decide) ?_
            refine gj_icmp_gt (tgt := 83) C dX3_move_76 (by decide) (fun c31 => ?_) (fun c31 => ?_)
            · refine gj_iconst (v := 0) C dX3_move_83 (by decide) ?_
              refine gj_istore (lw' := [some (.ref y), some (.int sh), some (.int rw), some (.int co), some (.int 0), some (.int (rw - r5.2.1)), some (.int (co - r5.2.2.1)), some (.int 0), none, none, none]) C dX3_move_84 (by decide) rfl rfl ?_
              refine gj_aload_n C dX3_move_86 rfl ?_
              refine gj_iload C dX3_move_87 rfl ?_
              refine gj_if_eqT (tgt := 104) C dX3_move_89 (by decide) rfl ?_
              refine gj_iconst (v := 1) C dX3_move_104 (by decide) ?_
              refine gj_goto (tgt := 120) C dX3_move_105 (by decide) ?_
              refine gj_put C dX3_move_120 hW.1.1 rfl inX3 tyX3_ok nmX3 0 (by decide) w_329 rfl rfl rfl (Nat.le_of_ble_eq_true rfl) ?_
              refine gj_f (f' := gm_up f y (cMo 1 ad (nI (cn en 4096)) 1 r5 (nI ml.length))) rfl ?_
              have hW := rpm_cd hW 1 (nI (cn en 4096))
              generalize gm_up f y (cMo 1 ad (nI (cn en 4096)) 1 r5 (nI ml.length)) = f at hW ⊢
              refine gj_aload_n C dX3_move_123 rfl ?_
              refine gj_get C dX3_move_124 hW.1.1 rfl inX3 0 (by decide) w_329 rfl ?_
              refine gj_if_eqF (tgt := 132) C dX3_move_127 (by decide) (by decide) ?_
              refine gj_iconst (v := 0) C dX3_move_130 (by decide) ?_
              exact gj_iret C hr hlk dX3_move_131 (⟨_, rfl, Or.inr (Or.inl ⟨Or.inl (by have qc21 := bI_p1 c21; have qc25 := bI_p1 c25; have qc29 := bI_p0 c29; revert qc21 qc25 qc29; simp only [i_le, i_lt, i_eq, t_0, t_1, t_5, t_7, t_8, t_16383, t_16384, t_32768, t_1048576, vs, vl, vc, vn, ll, rF, rL, rMeet, rIn, rY, if_true, if_false, Bool.false_eq_true, ite_true, ite_false, reduceIte, wn, vr]; (try intros); omega), ⟨ad, ga, _, r5, hW⟩⟩)⟩)
            · refine gj_iconst (v := 1) C dX3_move_79 (by decide) ?_
              refine gj_goto (tgt := 84) C dX3_move_80 (by decide) ?_
              refine gj_istore (lw' := [some (.ref y), some (.int sh), some (.int rw), some (.int co), some (.int 0), some (.int (rw - r5.2.1)), some (.int (co - r5.2.2.1)), some (.int 1), none, none, none]) C dX3_move_84 (by decide) rfl rfl ?_
              refine gj_aload_n C dX3_move_86 rfl ?_
              refine gj_iload C dX3_move_87 rfl ?_
              refine gj_if_eqT (tgt := 104) C dX3_move_89 (by decide) rfl ?_
              refine gj_iconst (v := 1) C dX3_move_104 (by decide) ?_
              refine gj_goto (tgt := 120) C dX3_move_105 (by decide) ?_
              refine gj_put C dX3_move_120 hW.1.1 rfl inX3 tyX3_ok nmX3 0 (by decide) w_329 rfl rfl rfl (Nat.le_of_ble_eq_true rfl) ?_
              refine gj_f (f' := gm_up f y (cMo 1 ad (nI (cn en 4096)) 1 r5 (nI ml.length))) rfl ?_
              have hW := rpm_cd hW 1 (nI (cn en 4096))
              generalize gm_up f y (cMo 1 ad (nI (cn en 4096)) 1 r5 (nI ml.length)) = f at hW ⊢
              refine gj_aload_n C dX3_move_123 rfl ?_
              refine gj_get C dX3_move_124 hW.1.1 rfl inX3 0 (by decide) w_329 rfl ?_
              refine gj_if_eqF (tgt := 132) C dX3_move_127 (by decide) (by decide) ?_
              refine gj_iconst (v := 0) C dX3_move_130 (by decide) ?_
              exact gj_iret C hr hlk dX3_move_131 (⟨_, rfl, Or.inr (Or.inl ⟨Or.inl (by have qc21 := bI_p1 c21; have qc25 := bI_p1 c25; have qc29 := bI_p0 c29; revert qc21 qc25 qc29; simp only [i_le, i_lt, i_eq, t_0, t_1, t_5, t_7, t_8, t_16383, t_16384, t_32768, t_1048576, vs, vl, vc, vn, ll, rF, rL, rMeet, rIn, rY, if_true, if_false, Bool.false_eq_true, ite_true, ite_false, reduceIte, wn, vr]; (try intros); omega), ⟨ad, ga, _, r5, hW⟩⟩)⟩)
        · refine gj_iconst (v := 1) C dX3_move_31 (by decide) ?_
          refine gj_goto (tgt := 36) C dX3_move_32 (by decide) ?_
          refine gj_istore (lw' := [some (.ref y), some (.int sh), some (.int rw), some (.int co), some (.int 1), none, none, none, none, none, none]) C dX3_move_36 (by decide) rfl rfl ?_
          refine gj_iload_n C dX3_move_38 rfl ?_
          refine gj_aload_n C dX3_move_39 rfl ?_
          refine gj_get C dX3_move_40 hW.1.1 rfl inX3 11 (by decide) w_340 rfl ?_
          refine gj_isub C dX3_move_43 ?_
          refine gj_istore (lw' := [some (.ref y), some (.int sh), some (.int rw), some (.int co), some (.int 1), some (.int (rw - r5.2.1)), none, none, none, none, none]) C dX3_move_44 (by decide) rfl rfl ?_
          refine gj_iload_n C dX3_move_46 rfl ?_
          refine gj_aload_n C dX3_move_47 rfl ?_
          refine gj_get C dX3_move_48 hW.1.1 rfl inX3 12 (by decide) w_341 rfl ?_
          refine gj_isub C dX3_move_51 ?_
          refine gj_istore (lw' := [some (.ref y), some (.int sh), some (.int rw), some (.int co), some (.int 1), some (.int (rw - r5.2.1)), some (.int (co - r5.2.2.1)), none, none, none, none]) C dX3_move_52 (by decide) rfl rfl ?_
          refine gj_aload_n C dX3_move_54 rfl ?_
          refine gj_get C dX3_move_55 hW.1.1 rfl inX3 13 (by decide) w_342 rfl ?_
          refine gj_iload C dX3_move_58 rfl ?_
          refine gj_iadd C dX3_move_60 ?_
          refine gj_ldc (v := 1048576) C dX3_move_61 w_393 ?_
          refine gj_icmp_gt (tgt := 83) C dX3_move_63 (by decide) (fun c32 => ?_) (fun c32 => ?_)
          · refine gj_iconst (v := 0) C dX3_move_83 (by decide) ?_
            refine gj_istore (lw' := [some (.ref y), some (.int sh), some (.int rw), some (.int co), some (.int 1), some (.int (rw - r5.2.1)), some (.int (co - r5.2.2.1)), some (.int 0), none, none, none]) C dX3_move_84 (by decide) rfl rfl ?_
            refine gj_aload_n C dX3_move_86 rfl ?_
            refine gj_iload C dX3_move_87 rfl ?_
            refine gj_if_eqF (tgt := 104) C dX3_move_89 (by decide) (by decide) ?_
            refine gj_aload_n C dX3_move_92 rfl ?_
            refine gj_get C dX3_move_93 hW.1.1 rfl inX3 9 (by decide) w_338 rfl ?_
            refine gj_if_eqF (tgt := 108) C dX3_move_96 (by decide) (by decide) ?_
            refine gj_iload C dX3_move_99 rfl ?_
            refine gj_if_neF (tgt := 108) C dX3_move_101 (by decide) rfl ?_
            refine gj_iconst (v := 1) C dX3_move_104 (by decide) ?_
            refine gj_goto (tgt := 120) C dX3_move_105 (by decide) ?_
            refine gj_put C dX3_move_120 hW.1.1 rfl inX3 tyX3_ok nmX3 0 (by decide) w_329 rfl rfl rfl (Nat.le_of_ble_eq_true rfl) ?_
            refine gj_f (f' := gm_up f y (cMo 1 ad (nI (cn en 4096)) 1 r5 (nI ml.length))) rfl ?_
            have hW := rpm_cd hW 1 (nI (cn en 4096))
            generalize gm_up f y (cMo 1 ad (nI (cn en 4096)) 1 r5 (nI ml.length)) = f at hW ⊢
            refine gj_aload_n C dX3_move_123 rfl ?_
            refine gj_get C dX3_move_124 hW.1.1 rfl inX3 0 (by decide) w_329 rfl ?_
            refine gj_if_eqF (tgt := 132) C dX3_move_127 (by decide) (by decide) ?_
            refine gj_iconst (v := 0) C dX3_move_130 (by decide) ?_
            exact gj_iret C hr hlk dX3_move_131 (⟨_, rfl, Or.inr (Or.inl ⟨Or.inr ⟨(by have qc21 := bI_p1 c21; have qc25 := bI_p1 c25; have qc29 := bI_p1 c29; revert qc21 qc25 qc29; simp only [i_le, i_lt, i_eq, t_0, t_1, t_5, t_7, t_8, t_16383, t_16384, t_32768, t_1048576, vs, vl, vc, vn, ll, rF, rL, rMeet, rIn, rY, if_true, if_false, Bool.false_eq_true, ite_true, ite_false, reduceIte, wn, vr]; (try intros); omega), r5, rfl, (fun h => i_ltn c32 ((mv_lies (hnv _ rfl) (by have qc21 := bI_p1 c21; have qc25 := bI_p1 c25; have qc29 := bI_p1 c29; revert qc21 qc25 qc29; simp only [i_le, i_lt, i_eq, t_0, t_1, t_5, t_7, t_8, t_16383, t_16384, t_32768, t_1048576, vs, vl, vc, vn, ll, rF, rL, rMeet, rIn, rY, if_true, if_false, Bool.false_eq_true, ite_true, ite_false, reduceIte, wn, vr]; (try intros); omega)).mp h).1)⟩, ⟨ad, ga, _, r5, hW⟩⟩)⟩)
          · refine gj_aload_n C dX3_move_66 rfl ?_
            refine gj_get C dX3_move_67 hW.1.1 rfl inX3 14 (by decide) w_343 rfl ?_
            refine gj_iload C dX3_move_70 rfl ?_
            refine gj_iadd C dX3_move_72 ?_
            refine gj_sipush (v := 16384) C dX3_move_73 (by decide) ?_
            refine gj_icmp_gt (tgt := 83) C dX3_move_76 (by decide) (fun c33 => ?_) (fun c33 => ?_)
            · refine gj_iconst (v := 0) C dX3_move_83 (by decide) ?_
              refine gj_istore (lw' := [some (.ref y), some (.int sh), some (.int rw), some (.int co), some (.int 1), some (.int (rw - r5.2.1)), some (.int (co - r5.2.2.1)), some (.int 0), none, none, none]) C dX3_move_84 (by decide) rfl rfl ?_
              refine gj_aload_n C dX3_move_86 rfl ?_
              refine gj_iload C dX3_move_87 rfl ?_
              refine gj_if_eqF (tgt := 104) C dX3_move_89 (by decide) (by decide) ?_
              refine gj_aload_n C dX3_move_92 rfl ?_
              refine gj_get C dX3_move_93 hW.1.1 rfl inX3 9 (by decide) w_338 rfl ?_
              refine gj_if_eqF (tgt := 108) C dX3_move_96 (by decide) (by decide) ?_
              refine gj_iload C dX3_move_99 rfl ?_
              refine gj_if_neF (tgt := 108) C dX3_move_101 (by decide) rfl ?_
              refine gj_iconst (v := 1) C dX3_move_104 (by decide) ?_
              refine gj_goto (tgt := 120) C dX3_move_105 (by decide) ?_
              refine gj_put C dX3_move_120 hW.1.1 rfl inX3 tyX3_ok nmX3 0 (by decide) w_329 rfl rfl rfl (Nat.le_of_ble_eq_true rfl) ?_
              refine gj_f (f' := gm_up f y (cMo 1 ad (nI (cn en 4096)) 1 r5 (nI ml.length))) rfl ?_
              have hW := rpm_cd hW 1 (nI (cn en 4096))
              generalize gm_up f y (cMo 1 ad (nI (cn en 4096)) 1 r5 (nI ml.length)) = f at hW ⊢
              refine gj_aload_n C dX3_move_123 rfl ?_
              refine gj_get C dX3_move_124 hW.1.1 rfl inX3 0 (by decide) w_329 rfl ?_
              refine gj_if_eqF (tgt := 132) C dX3_move_127 (by decide) (by decide) ?_
              refine gj_iconst (v := 0) C dX3_move_130 (by decide) ?_
              exact gj_iret C hr hlk dX3_move_131 (⟨_, rfl, Or.inr (Or.inl ⟨Or.inr ⟨(by have qc21 := bI_p1 c21; have qc25 := bI_p1 c25; have qc29 := bI_p1 c29; revert qc21 qc25 qc29; simp only [i_le, i_lt, i_eq, t_0, t_1, t_5, t_7, t_8, t_16383, t_16384, t_32768, t_1048576, vs, vl, vc, vn, ll, rF, rL, rMeet, rIn, rY, if_true, if_false, Bool.false_eq_true, ite_true, ite_false, reduceIte, wn, vr]; (try intros); omega), r5, rfl, (fun h => i_ltn c33 ((mv_lies (hnv _ rfl) (by have qc21 := bI_p1 c21; have qc25 := bI_p1 c25; have qc29 := bI_p1 c29; revert qc21 qc25 qc29; simp only [i_le, i_lt, i_eq, t_0, t_1, t_5, t_7, t_8, t_16383, t_16384, t_32768, t_1048576, vs, vl, vc, vn, ll, rF, rL, rMeet, rIn, rY, if_true, if_false, Bool.false_eq_true, ite_true, ite_false, reduceIte, wn, vr]; (try intros); omega)).mp h).2)⟩, ⟨ad, ga, _, r5, hW⟩⟩)⟩)
            · refine gj_iconst (v := 1) C dX3_move_79 (by decide) ?_
              refine gj_goto (tgt := 84) C dX3_move_80 (by decide) ?_
              refine gj_istore (lw' := [some (.ref y), some (.int sh), some (.int rw), some (.int co), some (.int 1), some (.int (rw - r5.2.1)), some (.int (co - r5.2.2.1)), some (.int 1), none, none, none]) C dX3_move_84 (by decide) rfl rfl ?_
              refine gj_aload_n C dX3_move_86 rfl ?_
              refine gj_iload C dX3_move_87 rfl ?_
              refine gj_if_eqF (tgt := 104) C dX3_move_89 (by decide) (by decide) ?_
              refine gj_aload_n C dX3_move_92 rfl ?_
              refine gj_get C dX3_move_93 hW.1.1 rfl inX3 9 (by decide) w_338 rfl ?_
              refine gj_if_eqF (tgt := 108) C dX3_move_96 (by decide) (by decide) ?_
              refine gj_iload C dX3_move_99 rfl ?_
              refine gj_if_neT (tgt := 108) C dX3_move_101 (by decide) (by decide) ?_
              refine gj_aload_n C dX3_move_108 rfl ?_
              refine gj_get C dX3_move_109 hW.1.1 rfl inX3 9 (by decide) w_338 rfl ?_
              refine gj_if_neT (tgt := 119) C dX3_move_112 (by decide) (by decide) ?_
              refine gj_iconst (v := 0) C dX3_move_119 (by decide) ?_
              refine gj_put C dX3_move_120 hW.1.1 rfl inX3 tyX3_ok nmX3 0 (by decide) w_329 rfl rfl rfl (Nat.le_of_ble_eq_true rfl) ?_
              refine gj_f (f' := gm_up f y (cMo 0 ad (nI (cn en 4096)) 1 r5 (nI ml.length))) rfl ?_
              have hW := rpm_cd hW 0 (nI (cn en 4096))
              generalize gm_up f y (cMo 0 ad (nI (cn en 4096)) 1 r5 (nI ml.length)) = f at hW ⊢
              refine gj_aload_n C dX3_move_123 rfl ?_
              refine gj_get C dX3_move_124 hW.1.1 rfl inX3 0 (by decide) w_329 rfl ?_
              refine gj_if_eqT (tgt := 132) C dX3_move_127 (by decide) rfl ?_
              refine gj_iconst (v := 0) C dX3_move_132 (by decide) ?_
              refine gj_istore (lw' := [some (.ref y), some (.int sh), some (.int rw), some (.int co), some (.int 1), some (.int (rw - r5.2.1)), some (.int (co - r5.2.2.1)), some (.int 1), some (.int 0), none, none]) C dX3_move_133 (by decide) rfl rfl ?_
              refine gj_iconst (v := 0) C dX3_move_135 (by decide) ?_
              refine gj_istore (lw' := [some (.ref y), some (.int sh), some (.int rw), some (.int co), some (.int 1), some (.int (rw - r5.2.1)), some (.int (co - r5.2.2.1)), some (.int 1), some (.int 0), some (.int 0), none]) C dX3_move_136 (by decide) rfl rfl ?_
              have hvc : vc sh rw co := (by have qc21 := bI_p1 c21; have qc25 := bI_p1 c25; have qc29 := bI_p1 c29; revert qc21 qc25 qc29; simp only [i_le, i_lt, i_eq, t_0, t_1, t_5, t_7, t_8, t_16383, t_16384, t_32768, t_1048576, vs, vl, vc, vn, ll, rF, rL, rMeet, rIn, rY, if_true, if_false, Bool.false_eq_true, ite_true, ite_false, reduceIte, wn, vr]; (try intros); omega)
              exact loop hvc ((mv_lies (hnv _ rfl) hvc).mpr ⟨i_nlt c32, i_nlt c33⟩) 4096 0 f (by omega) (by rw [mapI_0]; exact ⟨ad, ga, _, r5, hW⟩)
