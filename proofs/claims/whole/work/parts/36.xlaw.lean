/-! The law, call by call. -/
set_option maxRecDepth 100000 in
set_option maxHeartbeats 4000000 in
theorem law_0 {p : Program} {l : Launch} {e : Env} {s : State} {m : MethodId} {below : List Frame} {meth : Method} {c : Code} {D : va_G} {A : Nat → Prop} {cI cN cZ cJ : ClassId} {b L : Nat} {xs : Nat → Int32} {Q : State → Prop} (hC : lC p l s m c D A cI cN cZ cJ b L xs) {F gX gM : gm} {x y o : Nat} {g : Nat → Int64} {cd : Int32} {nx : Option Rc} {en : Nat → Option En} {ml : List Nat} {i : Int32} {k t : Nat} (hin : lI i L) (hW : wl cI cN cZ cJ F gX gM x y o g cd nx nx en en ml ml) (hf : wf t nx en) (ht : t < 512)
    (hk : ∀ (F' gX' gM' : gm) (g' : Nat → Int64) (cd' : Int32) (nx' : Option Rc) (en' : Nat → Option En) (ml' : List Nat), wl cI cN cZ cJ F' gX' gM' x y o g' cd' nx' nx' en' en' ml' ml' → wf (t + 1) nx' en' → gj p l e room_1 s m #[.ref b] below meth c D vwCl A 7 Q F' (10 * k) (2100 * k) 778 [some (.ref b), some (.ref x), some (.ref y), some (.ref o), some (.int i), none, none] []) : gj p l e room_1 s m #[.ref b] below meth c D vwCl A 7 Q F (10 * (k + 1)) (2100 * (k + 1)) 104 [some (.ref b), some (.ref x), some (.ref y), some (.ref o), some (.int i), none, none] [] := by
  obtain ⟨C, hV, hV2, hZ, hX, hbl, hbA, hl⟩ := hC
  obtain ⟨fs, hx⟩ := wl_x hW
  obtain ⟨n, hRp⟩ := hW.2.2.1
  refine gj_aload_n C dL_law_104 rfl ?_
  refine gj_aload_n C dL_law_105 rfl ?_
  refine gj_iload C dL_law_106 rfl ?_
  refine gj_iconst (v := 1) C dL_law_108 (by decide) ?_
  refine gj_iadd C dL_law_109 ?_
  refine gj_sld C hX hbl hbA hin.2.1 dL_law_110 ?_
  refine gj_aload_n C dL_law_111 rfl ?_
  refine gj_iload C dL_law_112 rfl ?_
  refine gj_iconst (v := 2) C dL_law_114 (by decide) ?_
  refine gj_iadd C dL_law_115 ?_
  refine gj_sld C hX hbl hbA hin.2.2.1 dL_law_116 ?_
  refine gj_aload_n C dL_law_117 rfl ?_
  refine gj_iload C dL_law_118 rfl ?_
  refine gj_iconst (v := 3) C dL_law_120 (by decide) ?_
  refine gj_iadd C dL_law_121 ?_
  refine gj_sld C hX hbl hbA hin.2.2.2.1 dL_law_122 ?_
  refine gj_aload_n C dL_law_123 rfl ?_
  refine gj_iload C dL_law_124 rfl ?_
  refine gj_iconst (v := 4) C dL_law_126 (by decide) ?_
  refine gj_iadd C dL_law_127 ?_
  refine gj_sld C hX hbl hbA hin.2.2.2.2.1 dL_law_128 ?_
  refine gj_aload_n C dL_law_129 rfl ?_
  refine gj_iload C dL_law_130 rfl ?_
  refine gj_iconst (v := 5) C dL_law_132 (by decide) ?_
  refine gj_iadd C dL_law_133 ?_
  refine gj_sld C hX hbl hbA hin.2.2.2.2.2 dL_law_134 ?_
  refine gj_cVF (As := [.int (xs (i + 1).toNatClampNeg), .int (xs (i + 2).toNatClampNeg), .int (xs (i + 3).toNatClampNeg), .int (xs (i + 4).toNatClampNeg), .int (xs (i + 5).toNatClampNeg)]) (rest := []) (nc := 10 * k) (ns := 2100 * k) C hV (k_rectangle l D cI cN cZ cJ gX x nx en n ml (xs (i + 1).toNatClampNeg) (xs (i + 2).toNatClampNeg) (xs (i + 3).toNatClampNeg) (xs (i + 4).toNatClampNeg) (xs (i + 5).toNatClampNeg) hRp) hW.1.1 dL_law_135 rfl w_41 rfl w_38 w_1 w_39 w_40 hd_X2_rectangle rfl hx rfl ⟨Nat.le_of_ble_eq_true rfl, Nat.le_of_ble_eq_true rfl⟩ (Nat.le_of_ble_eq_true rfl) (show 10 * k + 1 ≤ 10 * (k + 1) by omega) (show 2100 * k + 5 ≤ 2100 * (k + 1) by omega) (fun v u hp hd => ?_)
  have hW2 := wl_X hW hd hp.2
  obtain ⟨fs2, hy⟩ := wl_y hW2
  refine gj_rt (w := some (.int (bI (decide (vr ((xs (i + 1).toNatClampNeg), (xs (i + 2).toNatClampNeg), (xs (i + 3).toNatClampNeg), (xs (i + 4).toNatClampNeg), (xs (i + 5).toNatClampNeg))))))) (st' := [.int (bI (decide (vr ((xs (i + 1).toNatClampNeg), (xs (i + 2).toNatClampNeg), (xs (i + 3).toNatClampNeg), (xs (i + 4).toNatClampNeg), (xs (i + 5).toNatClampNeg)))))]) hp.1 rfl rfl ?_
  refine gj_aload_n C dL_law_138 rfl ?_
  refine gj_aload_n C dL_law_139 rfl ?_
  refine gj_iload C dL_law_140 rfl ?_
  refine gj_iconst (v := 1) C dL_law_142 (by decide) ?_
  refine gj_iadd C dL_law_143 ?_
  refine gj_sld C hX hbl hbA hin.2.1 dL_law_144 ?_
  refine gj_aload_n C dL_law_145 rfl ?_
  refine gj_iload C dL_law_146 rfl ?_
  refine gj_iconst (v := 2) C dL_law_148 (by decide) ?_
  refine gj_iadd C dL_law_149 ?_
  refine gj_sld C hX hbl hbA hin.2.2.1 dL_law_150 ?_
  refine gj_aload_n C dL_law_151 rfl ?_
  refine gj_iload C dL_law_152 rfl ?_
  refine gj_iconst (v := 3) C dL_law_154 (by decide) ?_
  refine gj_iadd C dL_law_155 ?_
  refine gj_sld C hX hbl hbA hin.2.2.2.1 dL_law_156 ?_
  refine gj_aload_n C dL_law_157 rfl ?_
  refine gj_iload C dL_law_158 rfl ?_
  refine gj_iconst (v := 4) C dL_law_160 (by decide) ?_
  refine gj_iadd C dL_law_161 ?_
  refine gj_sld C hX hbl hbA hin.2.2.2.2.1 dL_law_162 ?_
  refine gj_aload_n C dL_law_163 rfl ?_
  refine gj_iload C dL_law_164 rfl ?_
  refine gj_iconst (v := 5) C dL_law_166 (by decide) ?_
  refine gj_iadd C dL_law_167 ?_
  refine gj_sld C hX hbl hbA hin.2.2.2.2.2 dL_law_168 ?_
  refine gj_cVF (As := [.int (xs (i + 1).toNatClampNeg), .int (xs (i + 2).toNatClampNeg), .int (xs (i + 3).toNatClampNeg), .int (xs (i + 4).toNatClampNeg), .int (xs (i + 5).toNatClampNeg)]) (rest := [.int (bI (decide (vr ((xs (i + 1).toNatClampNeg), (xs (i + 2).toNatClampNeg), (xs (i + 3).toNatClampNeg), (xs (i + 4).toNatClampNeg), (xs (i + 5).toNatClampNeg)))))]) (nc := 10 * k) (ns := 2100 * k) C hV (k_Mrectangle l D cI cN cZ cJ gM y cd nx en ml (xs (i + 1).toNatClampNeg) (xs (i + 2).toNatClampNeg) (xs (i + 3).toNatClampNeg) (xs (i + 4).toNatClampNeg) (xs (i + 5).toNatClampNeg) hW2.2.2.2) hW2.1.2.1 dL_law_169 rfl w_389 rfl w_386 w_2 w_387 w_388 hd_X3_rectangle rfl hy rfl ⟨Nat.le_of_ble_eq_true rfl, Nat.le_of_ble_eq_true rfl⟩ (Nat.le_of_ble_eq_true rfl) (Nat.le_of_eq (Nat.add_zero _)) (Nat.le_of_eq (Nat.add_zero _)) (fun v2 u2 hp2 hd2 => ?_)
  have hW3 := wl_M hW2 hd2 hp2.2
  refine gj_rt (w := some (.int (bI (decide (vr ((xs (i + 1).toNatClampNeg), (xs (i + 2).toNatClampNeg), (xs (i + 3).toNatClampNeg), (xs (i + 4).toNatClampNeg), (xs (i + 5).toNatClampNeg))))))) (st' := [.int (bI (decide (vr ((xs (i + 1).toNatClampNeg), (xs (i + 2).toNatClampNeg), (xs (i + 3).toNatClampNeg), (xs (i + 4).toNatClampNeg), (xs (i + 5).toNatClampNeg))))), .int (bI (decide (vr ((xs (i + 1).toNatClampNeg), (xs (i + 2).toNatClampNeg), (xs (i + 3).toNatClampNeg), (xs (i + 4).toNatClampNeg), (xs (i + 5).toNatClampNeg)))))]) hp2.1 rfl rfl ?_
  refine gj_icmp_eqT (tgt := 778) C dL_law_172 (by decide) rfl ?_
  exact hk _ _ _ _ _ _ _ _ hW3 ((wf_rect hf _).mono (Nat.le_succ t))
set_option maxRecDepth 100000 in
set_option maxHeartbeats 4000000 in
theorem law_2 {p : Program} {l : Launch} {e : Env} {s : State} {m : MethodId} {below : List Frame} {meth : Method} {c : Code} {D : va_G} {A : Nat → Prop} {cI cN cZ cJ : ClassId} {b L : Nat} {xs : Nat → Int32} {Q : State → Prop} (hC : lC p l s m c D A cI cN cZ cJ b L xs) {F gX gM : gm} {x y o : Nat} {g : Nat → Int64} {cd : Int32} {nx : Option Rc} {en : Nat → Option En} {ml : List Nat} {i : Int32} {k t : Nat} (hin : lI i L) (hW : wl cI cN cZ cJ F gX gM x y o g cd nx nx en en ml ml) (hf : wf t nx en) (ht : t < 512)
    (hk : ∀ (F' gX' gM' : gm) (g' : Nat → Int64) (cd' : Int32) (nx' : Option Rc) (en' : Nat → Option En) (ml' : List Nat), wl cI cN cZ cJ F' gX' gM' x y o g' cd' nx' nx' en' en' ml' ml' → wf (t + 1) nx' en' → gj p l e room_1 s m #[.ref b] below meth c D vwCl A 7 Q F' (10 * k) (2100 * k) 778 [some (.ref b), some (.ref x), some (.ref y), some (.ref o), some (.int i), none, none] []) : gj p l e room_1 s m #[.ref b] below meth c D vwCl A 7 Q F (10 * (k + 1)) (2100 * (k + 1)) 233 [some (.ref b), some (.ref x), some (.ref y), some (.ref o), some (.int i), none, none] [] := by
  obtain ⟨C, hV, hV2, hZ, hX, hbl, hbA, hl⟩ := hC
  obtain ⟨fs, hx⟩ := wl_x hW
  obtain ⟨n, hRp⟩ := hW.2.2.1
  refine gj_aload_n C dL_law_233 rfl ?_
  refine gj_aload_n C dL_law_234 rfl ?_
  refine gj_iload C dL_law_235 rfl ?_
  refine gj_iconst (v := 1) C dL_law_237 (by decide) ?_
  refine gj_iadd C dL_law_238 ?_
  refine gj_sld C hX hbl hbA hin.2.1 dL_law_239 ?_
  refine gj_cVF (As := [.int (xs (i + 1).toNatClampNeg)]) (rest := []) (nc := 10 * k) (ns := 2100 * k) C hV (k_remove l D cI cN cZ cJ gX x nx en n ml (xs (i + 1).toNatClampNeg) hRp) hW.1.1 dL_law_240 rfl w_85 rfl w_82 w_1 w_83 w_84 hd_X2_remove rfl hx rfl ⟨Nat.le_of_ble_eq_true rfl, Nat.le_of_ble_eq_true rfl⟩ (Nat.le_of_ble_eq_true rfl) (show 10 * k + 0 ≤ 10 * (k + 1) by omega) (show 2100 * k + 0 ≤ 2100 * (k + 1) by omega) (fun v u hp hd => ?_)
  have hW2 := wl_X hW hd hp.2
  obtain ⟨fs2, hy⟩ := wl_y hW2
  refine gj_rt (w := some (.int (bI (thr en (xs (i + 1).toNatClampNeg))))) (st' := [.int (bI (thr en (xs (i + 1).toNatClampNeg)))]) hp.1 rfl rfl ?_
  refine gj_aload_n C dL_law_243 rfl ?_
  refine gj_aload_n C dL_law_244 rfl ?_
  refine gj_iload C dL_law_245 rfl ?_
  refine gj_iconst (v := 1) C dL_law_247 (by decide) ?_
  refine gj_iadd C dL_law_248 ?_
  refine gj_sld C hX hbl hbA hin.2.1 dL_law_249 ?_
  refine gj_cVF (As := [.int (xs (i + 1).toNatClampNeg)]) (rest := [.int (bI (thr en (xs (i + 1).toNatClampNeg)))]) (nc := 10 * k) (ns := 2100 * k) C hV (k_Mremove l D cI cN cZ cJ gM y cd nx en ml (xs (i + 1).toNatClampNeg) hW2.2.2.2) hW2.1.2.1 dL_law_250 rfl w_401 rfl w_398 w_2 w_399 w_400 hd_X3_remove rfl hy rfl ⟨Nat.le_of_ble_eq_true rfl, Nat.le_of_ble_eq_true rfl⟩ (Nat.le_of_ble_eq_true rfl) (Nat.le_of_eq (Nat.add_zero _)) (Nat.le_of_eq (Nat.add_zero _)) (fun v2 u2 hp2 hd2 => ?_)
  have hW3 := wl_M hW2 hd2 hp2.2
  refine gj_rt (w := some (.int (bI (thr en (xs (i + 1).toNatClampNeg))))) (st' := [.int (bI (thr en (xs (i + 1).toNatClampNeg))), .int (bI (thr en (xs (i + 1).toNatClampNeg)))]) hp2.1 rfl rfl ?_
  refine gj_icmp_eqT (tgt := 778) C dL_law_253 (by decide) rfl ?_
  exact hk _ _ _ _ _ _ _ _ hW3 ((wf_rm hf _).mono (Nat.le_succ t))
set_option maxRecDepth 100000 in
set_option maxHeartbeats 4000000 in
theorem law_3 {p : Program} {l : Launch} {e : Env} {s : State} {m : MethodId} {below : List Frame} {meth : Method} {c : Code} {D : va_G} {A : Nat → Prop} {cI cN cZ cJ : ClassId} {b L : Nat} {xs : Nat → Int32} {Q : State → Prop} (hC : lC p l s m c D A cI cN cZ cJ b L xs) {F gX gM : gm} {x y o : Nat} {g : Nat → Int64} {cd : Int32} {nx : Option Rc} {en : Nat → Option En} {ml : List Nat} {i : Int32} {k t : Nat} (hin : lI i L) (hW : wl cI cN cZ cJ F gX gM x y o g cd nx nx en en ml ml) (hf : wf t nx en) (ht : t < 512)
    (hk : ∀ (F' gX' gM' : gm) (g' : Nat → Int64) (cd' : Int32) (nx' : Option Rc) (en' : Nat → Option En) (ml' : List Nat), wl cI cN cZ cJ F' gX' gM' x y o g' cd' nx' nx' en' en' ml' ml' → wf (t + 1) nx' en' → gj p l e room_1 s m #[.ref b] below meth c D vwCl A 7 Q F' (10 * k) (2100 * k) 778 [some (.ref b), some (.ref x), some (.ref y), some (.ref o), some (.int i), none, none] []) : gj p l e room_1 s m #[.ref b] below meth c D vwCl A 7 Q F (10 * (k + 1)) (2100 * (k + 1)) 258 [some (.ref b), some (.ref x), some (.ref y), some (.ref o), some (.int i), none, none] [] := by
  obtain ⟨C, hV, hV2, hZ, hX, hbl, hbA, hl⟩ := hC
  obtain ⟨fs, hx⟩ := wl_x hW
  obtain ⟨n, hRp⟩ := hW.2.2.1
  refine gj_aload_n C dL_law_258 rfl ?_
  refine gj_aload_n C dL_law_259 rfl ?_
  refine gj_iload C dL_law_260 rfl ?_
  refine gj_iconst (v := 1) C dL_law_262 (by decide) ?_
  refine gj_iadd C dL_law_263 ?_
  refine gj_sld C hX hbl hbA hin.2.1 dL_law_264 ?_
  refine gj_cVF (As := [.int (xs (i + 1).toNatClampNeg)]) (rest := []) (nc := 10 * k) (ns := 2100 * k) C hV (k_drop l D cI cN cZ cJ gX x nx en n ml (xs (i + 1).toNatClampNeg) hRp) hW.1.1 dL_law_265 rfl w_97 rfl w_94 w_1 w_95 w_96 hd_X2_drop rfl hx rfl ⟨Nat.le_of_ble_eq_true rfl, Nat.le_of_ble_eq_true rfl⟩ (Nat.le_of_ble_eq_true rfl) (show 10 * k + 0 ≤ 10 * (k + 1) by omega) (show 2100 * k + 0 ≤ 2100 * (k + 1) by omega) (fun v u hp hd => ?_)
  have hW2 := wl_X hW hd hp.2
  obtain ⟨fs2, hy⟩ := wl_y hW2
  refine gj_rt (w := some (.int (nI (cbE (chD (xs (i + 1).toNatClampNeg)) en 4096)))) (st' := [.int (nI (cbE (chD (xs (i + 1).toNatClampNeg)) en 4096))]) hp.1 rfl rfl ?_
  refine gj_aload_n C dL_law_268 rfl ?_
  refine gj_aload_n C dL_law_269 rfl ?_
  refine gj_iload C dL_law_270 rfl ?_
  refine gj_iconst (v := 1) C dL_law_272 (by decide) ?_
  refine gj_iadd C dL_law_273 ?_
  refine gj_sld C hX hbl hbA hin.2.1 dL_law_274 ?_
  refine gj_cVF (As := [.int (xs (i + 1).toNatClampNeg)]) (rest := [.int (nI (cbE (chD (xs (i + 1).toNatClampNeg)) en 4096))]) (nc := 10 * k) (ns := 2100 * k) C hV (k_Mdrop l D cI cN cZ cJ gM y cd nx en ml (xs (i + 1).toNatClampNeg) hW2.2.2.2) hW2.1.2.1 dL_law_275 rfl w_413 rfl w_410 w_2 w_411 w_412 hd_X3_drop rfl hy rfl ⟨Nat.le_of_ble_eq_true rfl, Nat.le_of_ble_eq_true rfl⟩ (Nat.le_of_ble_eq_true rfl) (Nat.le_of_eq (Nat.add_zero _)) (Nat.le_of_eq (Nat.add_zero _)) (fun v2 u2 hp2 hd2 => ?_)
  have hW3 := wl_M hW2 hd2 hp2.2
  refine gj_rt (w := some (.int (nI (cbE (chD (xs (i + 1).toNatClampNeg)) en 4096)))) (st' := [.int (nI (cbE (chD (xs (i + 1).toNatClampNeg)) en 4096)), .int (nI (cbE (chD (xs (i + 1).toNatClampNeg)) en 4096))]) hp2.1 rfl rfl ?_
  refine gj_icmp_eqT (tgt := 778) C dL_law_278 (by decide) rfl ?_
  exact hk _ _ _ _ _ _ _ _ hW3 ((wf_D hf _).mono (Nat.le_succ t))
set_option maxRecDepth 100000 in
set_option maxHeartbeats 4000000 in
theorem law_6 {p : Program} {l : Launch} {e : Env} {s : State} {m : MethodId} {below : List Frame} {meth : Method} {c : Code} {D : va_G} {A : Nat → Prop} {cI cN cZ cJ : ClassId} {b L : Nat} {xs : Nat → Int32} {Q : State → Prop} (hC : lC p l s m c D A cI cN cZ cJ b L xs) {F gX gM : gm} {x y o : Nat} {g : Nat → Int64} {cd : Int32} {nx : Option Rc} {en : Nat → Option En} {ml : List Nat} {i : Int32} {k t : Nat} (hin : lI i L) (hW : wl cI cN cZ cJ F gX gM x y o g cd nx nx en en ml ml) (hf : wf t nx en) (ht : t < 512)
    (hk : ∀ (F' gX' gM' : gm) (g' : Nat → Int64) (cd' : Int32) (nx' : Option Rc) (en' : Nat → Option En) (ml' : List Nat), wl cI cN cZ cJ F' gX' gM' x y o g' cd' nx' nx' en' en' ml' ml' → wf (t + 1) nx' en' → gj p l e room_1 s m #[.ref b] below meth c D vwCl A 7 Q F' (10 * k) (2100 * k) 778 [some (.ref b), some (.ref x), some (.ref y), some (.ref o), some (.int i), none, none] []) : gj p l e room_1 s m #[.ref b] below meth c D vwCl A 7 Q F (10 * (k + 1)) (2100 * (k + 1)) 407 [some (.ref b), some (.ref x), some (.ref y), some (.ref o), some (.int i), none, none] [] := by
  obtain ⟨C, hV, hV2, hZ, hX, hbl, hbA, hl⟩ := hC
  obtain ⟨fs, hx⟩ := wl_x hW
  obtain ⟨n, hRp⟩ := hW.2.2.1
  refine gj_aload_n C dL_law_407 rfl ?_
  refine gj_aload_n C dL_law_408 rfl ?_
  refine gj_iload C dL_law_409 rfl ?_
  refine gj_iconst (v := 1) C dL_law_411 (by decide) ?_
  refine gj_iadd C dL_law_412 ?_
  refine gj_sld C hX hbl hbA hin.2.1 dL_law_413 ?_
  refine gj_cVF (As := [.int (xs (i + 1).toNatClampNeg)]) (rest := []) (nc := 10 * k) (ns := 2100 * k) C hV (k_met l D cI cN cZ cJ gX x nx en n ml (xs (i + 1).toNatClampNeg) hRp) hW.1.1 dL_law_414 rfl w_101 rfl w_98 w_1 w_99 w_100 hd_X2_met rfl hx rfl ⟨Nat.le_of_ble_eq_true rfl, Nat.le_of_ble_eq_true rfl⟩ (Nat.le_of_ble_eq_true rfl) (show 10 * k + 0 ≤ 10 * (k + 1) by omega) (show 2100 * k + 0 ≤ 2100 * (k + 1) by omega) (fun v u hp hd => ?_)
  have hW2 := wl_X hW hd (hp.2.symm ▸ hRp)
  obtain ⟨fs2, hy⟩ := wl_y hW2
  refine gj_rt (w := some (.int (mtA ml (xs (i + 1).toNatClampNeg)))) (st' := [.int (mtA ml (xs (i + 1).toNatClampNeg))]) hp.1 rfl rfl ?_
  refine gj_aload_n C dL_law_417 rfl ?_
  refine gj_aload_n C dL_law_418 rfl ?_
  refine gj_iload C dL_law_419 rfl ?_
  refine gj_iconst (v := 1) C dL_law_421 (by decide) ?_
  refine gj_iadd C dL_law_422 ?_
  refine gj_sld C hX hbl hbA hin.2.1 dL_law_423 ?_
  refine gj_cVF (As := [.int (xs (i + 1).toNatClampNeg)]) (rest := [.int (mtA ml (xs (i + 1).toNatClampNeg))]) (nc := 10 * k) (ns := 2100 * k) C hV (k_Mmet l D cI cN cZ cJ gM y cd nx en ml (xs (i + 1).toNatClampNeg) hW2.2.2.2) hW2.1.2.1 dL_law_424 rfl w_433 rfl w_430 w_2 w_431 w_432 hd_X3_met rfl hy rfl ⟨Nat.le_of_ble_eq_true rfl, Nat.le_of_ble_eq_true rfl⟩ (Nat.le_of_ble_eq_true rfl) (Nat.le_of_eq (Nat.add_zero _)) (Nat.le_of_eq (Nat.add_zero _)) (fun v2 u2 hp2 hd2 => ?_)
  have hW3 := wl_M hW2 hd2 hp2.2
  refine gj_rt (w := some (.int (mtA ml (xs (i + 1).toNatClampNeg)))) (st' := [.int (mtA ml (xs (i + 1).toNatClampNeg)), .int (mtA ml (xs (i + 1).toNatClampNeg))]) hp2.1 rfl rfl ?_
  refine gj_icmp_eqT (tgt := 778) C dL_law_427 (by decide) rfl ?_
  exact hk _ _ _ _ _ _ _ _ hW3 ((hf).mono (Nat.le_succ t))
set_option maxRecDepth 100000 in
set_option maxHeartbeats 4000000 in
theorem law_7 {p : Program} {l : Launch} {e : Env} {s : State} {m : MethodId} {below : List Frame} {meth : Method} {c : Code} {D : va_G} {A : Nat → Prop} {cI cN cZ cJ : ClassId} {b L : Nat} {xs : Nat → Int32} {Q : State → Prop} (hC : lC p l s m c D A cI cN cZ cJ b L xs) {F gX gM : gm} {x y o : Nat} {g : Nat → Int64} {cd : Int32} {nx : Option Rc} {en : Nat → Option En} {ml : List Nat} {i : Int32} {k t : Nat} (hin : lI i L) (hW : wl cI cN cZ cJ F gX gM x y o g cd nx nx en en ml ml) (hf : wf t nx en) (ht : t < 512)
    (hk : ∀ (F' gX' gM' : gm) (g' : Nat → Int64) (cd' : Int32) (nx' : Option Rc) (en' : Nat → Option En) (ml' : List Nat), wl cI cN cZ cJ F' gX' gM' x y o g' cd' nx' nx' en' en' ml' ml' → wf (t + 1) nx' en' → gj p l e room_1 s m #[.ref b] below meth c D vwCl A 7 Q F' (10 * k) (2100 * k) 778 [some (.ref b), some (.ref x), some (.ref y), some (.ref o), some (.int i), none, none] []) : gj p l e room_1 s m #[.ref b] below meth c D vwCl A 7 Q F (10 * (k + 1)) (2100 * (k + 1)) 432 [some (.ref b), some (.ref x), some (.ref y), some (.ref o), some (.int i), none, none] [] := by
  obtain ⟨C, hV, hV2, hZ, hX, hbl, hbA, hl⟩ := hC
  obtain ⟨fs, hx⟩ := wl_x hW
  obtain ⟨n, hRp⟩ := hW.2.2.1
  refine gj_aload_n C dL_law_432 rfl ?_
  refine gj_aload_n C dL_law_433 rfl ?_
  refine gj_iload C dL_law_434 rfl ?_
  refine gj_iconst (v := 1) C dL_law_436 (by decide) ?_
  refine gj_iadd C dL_law_437 ?_
  refine gj_sld C hX hbl hbA hin.2.1 dL_law_438 ?_
  refine gj_aload_n C dL_law_439 rfl ?_
  refine gj_iload C dL_law_440 rfl ?_
  refine gj_iconst (v := 2) C dL_law_442 (by decide) ?_
  refine gj_iadd C dL_law_443 ?_
  refine gj_sld C hX hbl hbA hin.2.2.1 dL_law_444 ?_
  refine gj_cVF (As := [.int (xs (i + 1).toNatClampNeg), .int (xs (i + 2).toNatClampNeg)]) (rest := []) (nc := 10 * k) (ns := 2100 * k) C hV (k_entry l D cI cN cZ cJ gX x nx en n ml (xs (i + 1).toNatClampNeg) (xs (i + 2).toNatClampNeg) hRp) hW.1.1 dL_law_445 rfl w_105 rfl w_102 w_1 w_103 w_104 hd_X2_entry rfl hx rfl ⟨Nat.le_of_ble_eq_true rfl, Nat.le_of_ble_eq_true rfl⟩ (Nat.le_of_ble_eq_true rfl) (show 10 * k + 0 ≤ 10 * (k + 1) by omega) (show 2100 * k + 0 ≤ 2100 * (k + 1) by omega) (fun v u hp hd => ?_)
  have hW2 := wl_X hW hd (hp.2.symm ▸ hRp)
  obtain ⟨fs2, hy⟩ := wl_y hW2
  refine gj_rt (w := some (.int (enA en (xs (i + 1).toNatClampNeg) (xs (i + 2).toNatClampNeg)))) (st' := [.int (enA en (xs (i + 1).toNatClampNeg) (xs (i + 2).toNatClampNeg))]) hp.1 rfl rfl ?_
  refine gj_aload_n C dL_law_448 rfl ?_
  refine gj_aload_n C dL_law_449 rfl ?_
  refine gj_iload C dL_law_450 rfl ?_
  refine gj_iconst (v := 1) C dL_law_452 (by decide) ?_
  refine gj_iadd C dL_law_453 ?_
  refine gj_sld C hX hbl hbA hin.2.1 dL_law_454 ?_
  refine gj_aload_n C dL_law_455 rfl ?_
  refine gj_iload C dL_law_456 rfl ?_
  refine gj_iconst (v := 2) C dL_law_458 (by decide) ?_
  refine gj_iadd C dL_law_459 ?_
  refine gj_sld C hX hbl hbA hin.2.2.1 dL_law_460 ?_
  refine gj_cVF (As := [.int (xs (i + 1).toNatClampNeg), .int (xs (i + 2).toNatClampNeg)]) (rest := [.int (enA en (xs (i + 1).toNatClampNeg) (xs (i + 2).toNatClampNeg))]) (nc := 10 * k) (ns := 2100 * k) C hV (k_Mentry l D cI cN cZ cJ gM y cd nx en ml (xs (i + 1).toNatClampNeg) (xs (i + 2).toNatClampNeg) hW2.2.2.2) hW2.1.2.1 dL_law_461 rfl w_437 rfl w_434 w_2 w_435 w_436 hd_X3_entry rfl hy rfl ⟨Nat.le_of_ble_eq_true rfl, Nat.le_of_ble_eq_true rfl⟩ (Nat.le_of_ble_eq_true rfl) (Nat.le_of_eq (Nat.add_zero _)) (Nat.le_of_eq (Nat.add_zero _)) (fun v2 u2 hp2 hd2 => ?_)
  have hW3 := wl_M hW2 hd2 hp2.2
  refine gj_rt (w := some (.int (enA en (xs (i + 1).toNatClampNeg) (xs (i + 2).toNatClampNeg)))) (st' := [.int (enA en (xs (i + 1).toNatClampNeg) (xs (i + 2).toNatClampNeg)), .int (enA en (xs (i + 1).toNatClampNeg) (xs (i + 2).toNatClampNeg))]) hp2.1 rfl rfl ?_
  refine gj_icmp_eqT (tgt := 778) C dL_law_464 (by decide) rfl ?_
  exact hk _ _ _ _ _ _ _ _ hW3 ((hf).mono (Nat.le_succ t))
set_option maxRecDepth 100000 in
set_option maxHeartbeats 4000000 in
theorem law_8 {p : Program} {l : Launch} {e : Env} {s : State} {m : MethodId} {below : List Frame} {meth : Method} {c : Code} {D : va_G} {A : Nat → Prop} {cI cN cZ cJ : ClassId} {b L : Nat} {xs : Nat → Int32} {Q : State → Prop} (hC : lC p l s m c D A cI cN cZ cJ b L xs) {F gX gM : gm} {x y o : Nat} {g : Nat → Int64} {cd : Int32} {nx : Option Rc} {en : Nat → Option En} {ml : List Nat} {i : Int32} {k t : Nat} (hin : lI i L) (hW : wl cI cN cZ cJ F gX gM x y o g cd nx nx en en ml ml) (hf : wf t nx en) (ht : t < 512)
    (hk : ∀ (F' gX' gM' : gm) (g' : Nat → Int64) (cd' : Int32) (nx' : Option Rc) (en' : Nat → Option En) (ml' : List Nat), wl cI cN cZ cJ F' gX' gM' x y o g' cd' nx' nx' en' en' ml' ml' → wf (t + 1) nx' en' → gj p l e room_1 s m #[.ref b] below meth c D vwCl A 7 Q F' (10 * k) (2100 * k) 778 [some (.ref b), some (.ref x), some (.ref y), some (.ref o), some (.int i), none, none] []) : gj p l e room_1 s m #[.ref b] below meth c D vwCl A 7 Q F (10 * (k + 1)) (2100 * (k + 1)) 469 [some (.ref b), some (.ref x), some (.ref y), some (.ref o), some (.int i), none, none] [] := by
  obtain ⟨C, hV, hV2, hZ, hX, hbl, hbA, hl⟩ := hC
  obtain ⟨fs, hx⟩ := wl_x hW
  obtain ⟨n, hRp⟩ := hW.2.2.1
  refine gj_aload_n C dL_law_469 rfl ?_
  refine gj_cVF (As := []) (rest := []) (nc := 10 * k) (ns := 2100 * k) C hV (k_count l D cI cN cZ cJ gX x nx en n ml hRp) hW.1.1 dL_law_470 rfl w_109 rfl w_106 w_1 w_107 w_108 hd_X2_count rfl hx rfl ⟨Nat.le_of_ble_eq_true rfl, Nat.le_of_ble_eq_true rfl⟩ (Nat.le_of_ble_eq_true rfl) (show 10 * k + 0 ≤ 10 * (k + 1) by omega) (show 2100 * k + 0 ≤ 2100 * (k + 1) by omega) (fun v u hp hd => ?_)
  have hW2 := wl_X hW hd (hp.2.symm ▸ hRp)
  obtain ⟨fs2, hy⟩ := wl_y hW2
  refine gj_rt (w := some (.int (nI (cn en 4096)))) (st' := [.int (nI (cn en 4096))]) hp.1 rfl rfl ?_
  refine gj_aload_n C dL_law_473 rfl ?_
  refine gj_cVF (As := []) (rest := [.int (nI (cn en 4096))]) (nc := 10 * k) (ns := 2100 * k) C hV (k_Mcount l D cI cN cZ cJ gM y cd nx en ml hW2.2.2.2) hW2.1.2.1 dL_law_474 rfl w_441 rfl w_438 w_2 w_439 w_440 hd_X3_count rfl hy rfl ⟨Nat.le_of_ble_eq_true rfl, Nat.le_of_ble_eq_true rfl⟩ (Nat.le_of_ble_eq_true rfl) (Nat.le_of_eq (Nat.add_zero _)) (Nat.le_of_eq (Nat.add_zero _)) (fun v2 u2 hp2 hd2 => ?_)
  have hW3 := wl_M hW2 hd2 hp2.2
  refine gj_rt (w := some (.int (nI (cn en 4096)))) (st' := [.int (nI (cn en 4096)), .int (nI (cn en 4096))]) hp2.1 rfl rfl ?_
  refine gj_icmp_eqT (tgt := 778) C dL_law_477 (by decide) rfl ?_
  exact hk _ _ _ _ _ _ _ _ hW3 ((hf).mono (Nat.le_succ t))
set_option maxRecDepth 100000 in
set_option maxHeartbeats 4000000 in
theorem law_1 {p : Program} {l : Launch} {e : Env} {s : State} {m : MethodId} {below : List Frame} {meth : Method} {c : Code} {D : va_G} {A : Nat → Prop} {cI cN cZ cJ : ClassId} {b L : Nat} {xs : Nat → Int32} {Q : State → Prop} (hC : lC p l s m c D A cI cN cZ cJ b L xs) {F gX gM : gm} {x y o : Nat} {g : Nat → Int64} {cd : Int32} {nx : Option Rc} {en : Nat → Option En} {ml : List Nat} {i : Int32} {k t : Nat} (hin : lI i L) (hW : wl cI cN cZ cJ F gX gM x y o g cd nx nx en en ml ml) (hf : wf t nx en) (ht : t < 512)
    (hk : ∀ (F' gX' gM' : gm) (g' : Nat → Int64) (cd' : Int32) (nx' : Option Rc) (en' : Nat → Option En) (ml' : List Nat), wl cI cN cZ cJ F' gX' gM' x y o g' cd' nx' nx' en' en' ml' ml' → wf (t + 1) nx' en' → gj p l e room_1 s m #[.ref b] below meth c D vwCl A 7 Q F' (10 * k) (2100 * k) 778 [some (.ref b), some (.ref x), some (.ref y), some (.ref o), some (.int i), none, none] []) : gj p l e room_1 s m #[.ref b] below meth c D vwCl A 7 Q F (10 * (k + 1)) (2100 * (k + 1)) 177 [some (.ref b), some (.ref x), some (.ref y), some (.ref o), some (.int i), none, none] [] := by
  obtain ⟨C, hV, hV2, hZ, hX, hbl, hbA, hl⟩ := hC
  refine gj_aload_n C dL_law_177 rfl ?_
  refine gj_aload_n C dL_law_178 rfl ?_
  refine gj_iload C dL_law_179 rfl ?_
  refine gj_iconst (v := 1) C dL_law_181 (by decide) ?_
  refine gj_iadd C dL_law_182 ?_
  refine gj_sld C hX hbl hbA hin.2.1 dL_law_183 ?_
  refine gj_aload_n C dL_law_184 rfl ?_
  refine gj_cSX (As := [.ref x, .int (xs (i + 1).toNatClampNeg), .ref o]) (rest := []) (nc := 10 * k) (ns := 2100 * k) C hV hV2 hZ (kL_add l hl D cI cN cZ cJ F gX gM x y o g cd nx nx en en ml ml (xs (i + 1).toNatClampNeg) hW (fun j hj => hf.2.2 j (by omega))) (fun _ _ h => h) dL_law_185 rfl w_112 rfl w_110 w_0 w_111 hd_L_add rfl ⟨Nat.le_of_ble_eq_true rfl, Nat.le_of_ble_eq_true rfl⟩ (Nat.le_of_ble_eq_true rfl) (show 10 * k + 3 ≤ 10 * (k + 1) by omega) (show 2100 * k + 1031 ≤ 2100 * (k + 1) by omega) (fun v u hp hd => ?_)
  obtain ⟨k0, a0, en2, ml2, gX2, g2, rfl, hS, h0, hW2⟩ := hp
  obtain ⟨fs2, hy⟩ := wl_y hW2
  refine gj_f gm_fr_self ?_
  refine gj_st (st' := [.int k0]) rfl ?_
  refine gj_istore (lw' := [some (.ref b), some (.ref x), some (.ref y), some (.ref o), some (.int i), some (.int k0), none]) C dL_law_188 (by decide) rfl rfl ?_
  refine gj_aload_n C dL_law_190 rfl ?_
  refine gj_aload_n C dL_law_191 rfl ?_
  refine gj_iload C dL_law_192 rfl ?_
  refine gj_iconst (v := 1) C dL_law_194 (by decide) ?_
  refine gj_iadd C dL_law_195 ?_
  refine gj_sld C hX hbl hbA hin.2.1 dL_law_196 ?_
  refine gj_cVF (As := [.int (xs (i + 1).toNatClampNeg)]) (rest := []) (nc := 10 * k) (ns := 2100 * k) C hV (k_Madd l D cI cN cZ cJ gM y cd nx en ml (xs (i + 1).toNatClampNeg) hW2.2.2.2 (wf_low hf (by omega))) hW2.1.2.1 dL_law_197 rfl w_397 rfl w_394 w_2 w_395 w_396 hd_X3_add rfl hy rfl ⟨Nat.le_of_ble_eq_true rfl, Nat.le_of_ble_eq_true rfl⟩ (Nat.le_of_ble_eq_true rfl) (Nat.le_of_eq (Nat.add_zero _)) (Nat.le_of_eq (Nat.add_zero _)) (fun v2 u2 hp2 hd2 => ?_)
  obtain ⟨b0, k2, en3, ml3, rfl, hS2, hRM⟩ := cvA hp2
  obtain ⟨e1, e2, e3, e4⟩ := sA_un hS hS2
  rw [e1, e3, e4] at hRM
  have hW3 := wl_M hW2 hd2 hRM
  obtain ⟨fs3, hy3⟩ := wl_y hW3
  refine gj_st (st' := [.int b0]) rfl ?_
  refine gj_istore (lw' := [some (.ref b), some (.ref x), some (.ref y), some (.ref o), some (.int i), some (.int k0), some (.int b0)]) C dL_law_200 (by decide) rfl rfl ?_
  refine gj_aload_n C dL_law_202 rfl ?_
  obtain ⟨ad, ga, isR, r5, hrp⟩ := hRM
  refine gj_cVF (As := []) (rest := []) (nc := 10 * k) (ns := 2100 * k) C hV (k_Mthrown l D cI cN cZ cJ u2 y k0 nx en2 ml2 ad ga isR r5 _ hrp) hW3.1.2.1 dL_law_203 rfl w_385 rfl w_382 w_2 w_383 w_384 hd_X3_thrown rfl hy3 rfl ⟨Nat.le_of_ble_eq_true rfl, Nat.le_of_ble_eq_true rfl⟩ (Nat.le_of_ble_eq_true rfl) (Nat.le_of_eq (Nat.add_zero _)) (Nat.le_of_eq (Nat.add_zero _)) (fun v3 u3 hp3 hd3 => ?_)
  refine gj_rt (w := some (.int k0)) (st' := [.int k0]) hp3.1 ((congrArg _ hp3.2).trans (gm_fr_sub hW3.1.2.1)) rfl ?_
  refine gj_iload C dL_law_206 rfl ?_
  refine gj_icmp_eqT (tgt := 213) C dL_law_208 (by decide) rfl ?_
  refine gj_iload C dL_law_213 rfl ?_
  refine gj_if_ne (tgt := 230) C dL_law_215 (by decide) (fun z0 => ?_) (fun z0 => ?_)
  · refine gj_goto (tgt := 778) C dL_law_230 (by decide) ?_
    refine gj_un 5 rfl (gj_un 6 rfl ?_)
    exact hk _ _ _ _ _ _ _ _ hW3 (sA_wf hS hf)
  · refine gj_aload_n C dL_law_218 rfl ?_
    refine gj_iconst (v := 0) C dL_law_219 (by decide) ?_
    refine gj_lald C 3 dL_law_220 hW3.1.2.2 rfl in_01 ?_
    refine gj_iload C dL_law_221 rfl ?_
    refine gj_i2l C dL_law_223 ?_
    refine gj_lcmp C dL_law_224 ?_
    refine gj_if_eqT (tgt := 230) C dL_law_225 (by decide) (lcmp_0 (h0 z0) (e2 z0)) ?_
    refine gj_goto (tgt := 778) C dL_law_230 (by decide) ?_
    refine gj_un 5 rfl (gj_un 6 rfl ?_)
    exact hk _ _ _ _ _ _ _ _ hW3 (sA_wf hS hf)
set_option maxRecDepth 100000 in
set_option maxHeartbeats 4000000 in
theorem law_4 {p : Program} {l : Launch} {e : Env} {s : State} {m : MethodId} {below : List Frame} {meth : Method} {c : Code} {D : va_G} {A : Nat → Prop} {cI cN cZ cJ : ClassId} {b L : Nat} {xs : Nat → Int32} {Q : State → Prop} (hC : lC p l s m c D A cI cN cZ cJ b L xs) {F gX gM : gm} {x y o : Nat} {g : Nat → Int64} {cd : Int32} {nx : Option Rc} {en : Nat → Option En} {ml : List Nat} {i : Int32} {k t : Nat} (hin : lI i L) (hW : wl cI cN cZ cJ F gX gM x y o g cd nx nx en en ml ml) (hf : wf t nx en) (ht : t < 512)
    (hk : ∀ (F' gX' gM' : gm) (g' : Nat → Int64) (cd' : Int32) (nx' : Option Rc) (en' : Nat → Option En) (ml' : List Nat), wl cI cN cZ cJ F' gX' gM' x y o g' cd' nx' nx' en' en' ml' ml' → wf (t + 1) nx' en' → gj p l e room_1 s m #[.ref b] below meth c D vwCl A 7 Q F' (10 * k) (2100 * k) 778 [some (.ref b), some (.ref x), some (.ref y), some (.ref o), some (.int i), none, none] []) : gj p l e room_1 s m #[.ref b] below meth c D vwCl A 7 Q F (10 * (k + 1)) (2100 * (k + 1)) 283 [some (.ref b), some (.ref x), some (.ref y), some (.ref o), some (.int i), none, none] [] := by
  obtain ⟨C, hV, hV2, hZ, hX, hbl, hbA, hl⟩ := hC
  refine gj_aload_n C dL_law_283 rfl ?_
  refine gj_aload_n C dL_law_284 rfl ?_
  refine gj_iload C dL_law_285 rfl ?_
  refine gj_iconst (v := 1) C dL_law_287 (by decide) ?_
  refine gj_iadd C dL_law_288 ?_
  refine gj_sld C hX hbl hbA hin.2.1 dL_law_289 ?_
  refine gj_aload_n C dL_law_290 rfl ?_
  refine gj_iload C dL_law_291 rfl ?_
  refine gj_iconst (v := 2) C dL_law_293 (by decide) ?_
  refine gj_iadd C dL_law_294 ?_
  refine gj_sld C hX hbl hbA hin.2.2.1 dL_law_295 ?_
  refine gj_aload_n C dL_law_296 rfl ?_
  refine gj_iload C dL_law_297 rfl ?_
  refine gj_iconst (v := 3) C dL_law_299 (by decide) ?_
  refine gj_iadd C dL_law_300 ?_
  refine gj_sld C hX hbl hbA hin.2.2.2.1 dL_law_301 ?_
  refine gj_aload_n C dL_law_302 rfl ?_
  refine gj_cSX (As := [.ref x, .int (xs (i + 1).toNatClampNeg), .int (xs (i + 2).toNatClampNeg), .int (xs (i + 3).toNatClampNeg), .ref o]) (rest := []) (nc := 10 * k) (ns := 2100 * k) C hV hV2 hZ (kL_readers l hl D cI cN cZ cJ F gX gM x y o g cd nx nx en en ml ml (xs (i + 1).toNatClampNeg) (xs (i + 2).toNatClampNeg) (xs (i + 3).toNatClampNeg) hW) (fun _ _ h => h) dL_law_303 rfl w_237 rfl w_235 w_0 w_236 hd_L_readers rfl ⟨Nat.le_of_ble_eq_true rfl, Nat.le_of_ble_eq_true rfl⟩ (Nat.le_of_ble_eq_true rfl) (show 10 * k + 2 ≤ 10 * (k + 1) by omega) (show 2100 * k + 1030 ≤ 2100 * (k + 1) by omega) (fun v u hp hd => ?_)
  obtain ⟨k0, a0, en2, ml2, gX2, g2, rfl, hS, h0, hW2⟩ := hp
  obtain ⟨fs2, hy⟩ := wl_y hW2
  refine gj_f gm_fr_self ?_
  refine gj_st (st' := [.int k0]) rfl ?_
  refine gj_istore (lw' := [some (.ref b), some (.ref x), some (.ref y), some (.ref o), some (.int i), some (.int k0), none]) C dL_law_306 (by decide) rfl rfl ?_
  refine gj_aload_n C dL_law_308 rfl ?_
  refine gj_aload_n C dL_law_309 rfl ?_
  refine gj_iload C dL_law_310 rfl ?_
  refine gj_iconst (v := 1) C dL_law_312 (by decide) ?_
  refine gj_iadd C dL_law_313 ?_
  refine gj_sld C hX hbl hbA hin.2.1 dL_law_314 ?_
  refine gj_aload_n C dL_law_315 rfl ?_
  refine gj_iload C dL_law_316 rfl ?_
  refine gj_iconst (v := 2) C dL_law_318 (by decide) ?_
  refine gj_iadd C dL_law_319 ?_
  refine gj_sld C hX hbl hbA hin.2.2.1 dL_law_320 ?_
  refine gj_aload_n C dL_law_321 rfl ?_
  refine gj_iload C dL_law_322 rfl ?_
  refine gj_iconst (v := 3) C dL_law_324 (by decide) ?_
  refine gj_iadd C dL_law_325 ?_
  refine gj_sld C hX hbl hbA hin.2.2.2.1 dL_law_326 ?_
  refine gj_cVF (As := [.int (xs (i + 1).toNatClampNeg), .int (xs (i + 2).toNatClampNeg), .int (xs (i + 3).toNatClampNeg)]) (rest := []) (nc := 10 * k) (ns := 2100 * k) C hV (k_Mreaders l D cI cN cZ cJ gM y cd nx en ml (xs (i + 1).toNatClampNeg) (xs (i + 2).toNatClampNeg) (xs (i + 3).toNatClampNeg) hW2.2.2.2) hW2.1.2.1 dL_law_327 rfl w_417 rfl w_414 w_2 w_415 w_416 hd_X3_readers rfl hy rfl ⟨Nat.le_of_ble_eq_true rfl, Nat.le_of_ble_eq_true rfl⟩ (Nat.le_of_ble_eq_true rfl) (Nat.le_of_eq (Nat.add_zero _)) (Nat.le_of_eq (Nat.add_zero _)) (fun v2 u2 hp2 hd2 => ?_)
  obtain ⟨b0, k2, en3, ml3, rfl, hS2, hRM⟩ := cvR hp2
  obtain ⟨e1, e2, e3, e4⟩ := sR_un hS hS2
  rw [e1, e3, e4] at hRM
  have hW3 := wl_M hW2 hd2 hRM
  obtain ⟨fs3, hy3⟩ := wl_y hW3
  refine gj_st (st' := [.int b0]) rfl ?_
  refine gj_istore (lw' := [some (.ref b), some (.ref x), some (.ref y), some (.ref o), some (.int i), some (.int k0), some (.int b0)]) C dL_law_330 (by decide) rfl rfl ?_
  refine gj_aload_n C dL_law_332 rfl ?_
  obtain ⟨ad, ga, isR, r5, hrp⟩ := hRM
  refine gj_cVF (As := []) (rest := []) (nc := 10 * k) (ns := 2100 * k) C hV (k_Mthrown l D cI cN cZ cJ u2 y k0 nx en2 ml2 ad ga isR r5 _ hrp) hW3.1.2.1 dL_law_333 rfl w_385 rfl w_382 w_2 w_383 w_384 hd_X3_thrown rfl hy3 rfl ⟨Nat.le_of_ble_eq_true rfl, Nat.le_of_ble_eq_true rfl⟩ (Nat.le_of_ble_eq_true rfl) (Nat.le_of_eq (Nat.add_zero _)) (Nat.le_of_eq (Nat.add_zero _)) (fun v3 u3 hp3 hd3 => ?_)
  refine gj_rt (w := some (.int k0)) (st' := [.int k0]) hp3.1 ((congrArg _ hp3.2).trans (gm_fr_sub hW3.1.2.1)) rfl ?_
  refine gj_iload C dL_law_336 rfl ?_
  refine gj_icmp_eqT (tgt := 343) C dL_law_338 (by decide) rfl ?_
  refine gj_iload C dL_law_343 rfl ?_
  refine gj_if_ne (tgt := 360) C dL_law_345 (by decide) (fun z0 => ?_) (fun z0 => ?_)
  · refine gj_goto (tgt := 778) C dL_law_360 (by decide) ?_
    refine gj_un 5 rfl (gj_un 6 rfl ?_)
    exact hk _ _ _ _ _ _ _ _ hW3 (sR_wf hS hf)
  · refine gj_aload_n C dL_law_348 rfl ?_
    refine gj_iconst (v := 0) C dL_law_349 (by decide) ?_
    refine gj_lald C 3 dL_law_350 hW3.1.2.2 rfl in_01 ?_
    refine gj_iload C dL_law_351 rfl ?_
    refine gj_i2l C dL_law_353 ?_
    refine gj_lcmp C dL_law_354 ?_
    refine gj_if_eqT (tgt := 360) C dL_law_355 (by decide) (lcmp_0 (h0 z0) (e2 z0)) ?_
    refine gj_goto (tgt := 778) C dL_law_360 (by decide) ?_
    refine gj_un 5 rfl (gj_un 6 rfl ?_)
    exact hk _ _ _ _ _ _ _ _ hW3 (sR_wf hS hf)
set_option maxRecDepth 100000 in
set_option maxHeartbeats 4000000 in
theorem law_5 {p : Program} {l : Launch} {e : Env} {s : State} {m : MethodId} {below : List Frame} {meth : Method} {c : Code} {D : va_G} {A : Nat → Prop} {cI cN cZ cJ : ClassId} {b L : Nat} {xs : Nat → Int32} {Q : State → Prop} (hC : lC p l s m c D A cI cN cZ cJ b L xs) {F gX gM : gm} {x y o : Nat} {g : Nat → Int64} {cd : Int32} {nx : Option Rc} {en : Nat → Option En} {ml : List Nat} {i : Int32} {k t : Nat} (hin : lI i L) (hW : wl cI cN cZ cJ F gX gM x y o g cd nx nx en en ml ml) (hf : wf t nx en) (ht : t < 512)
    (hk : ∀ (F' gX' gM' : gm) (g' : Nat → Int64) (cd' : Int32) (nx' : Option Rc) (en' : Nat → Option En) (ml' : List Nat), wl cI cN cZ cJ F' gX' gM' x y o g' cd' nx' nx' en' en' ml' ml' → wf (t + 1) nx' en' → gj p l e room_1 s m #[.ref b] below meth c D vwCl A 7 Q F' (10 * k) (2100 * k) 778 [some (.ref b), some (.ref x), some (.ref y), some (.ref o), some (.int i), none, none] []) : gj p l e room_1 s m #[.ref b] below meth c D vwCl A 7 Q F (10 * (k + 1)) (2100 * (k + 1)) 363 [some (.ref b), some (.ref x), some (.ref y), some (.ref o), some (.int i), none, none] [] := by
  obtain ⟨C, hV, hV2, hZ, hX, hbl, hbA, hl⟩ := hC
  refine gj_aload_n C dL_law_363 rfl ?_
  refine gj_aload_n C dL_law_364 rfl ?_
  refine gj_cSX (As := [.ref x, .ref o]) (rest := []) (nc := 10 * k) (ns := 2100 * k) C hV hV2 hZ (kL_meet l hl D cI cN cZ cJ F gX gM x y o g cd nx nx en en ml ml hW) (fun _ _ h => h) dL_law_365 rfl w_253 rfl w_251 w_0 w_252 hd_L_meet rfl ⟨Nat.le_of_ble_eq_true rfl, Nat.le_of_ble_eq_true rfl⟩ (Nat.le_of_ble_eq_true rfl) (show 10 * k + 1 ≤ 10 * (k + 1) by omega) (show 2100 * k + 1024 ≤ 2100 * (k + 1) by omega) (fun v u hp hd => ?_)
  obtain ⟨k0, a0, en2, ml2, gX2, g2, rfl, hS, h0, hW2⟩ := hp
  obtain ⟨fs2, hy⟩ := wl_y hW2
  refine gj_f gm_fr_self ?_
  refine gj_st (st' := [.int k0]) rfl ?_
  refine gj_istore (lw' := [some (.ref b), some (.ref x), some (.ref y), some (.ref o), some (.int i), some (.int k0), none]) C dL_law_368 (by decide) rfl rfl ?_
  refine gj_aload_n C dL_law_370 rfl ?_
  refine gj_cVF (As := []) (rest := []) (nc := 10 * k) (ns := 2100 * k) C hV (k_Mmeet l D cI cN cZ cJ gM y cd nx en ml hW2.2.2.2) hW2.1.2.1 dL_law_371 rfl w_429 rfl w_426 w_2 w_427 w_428 hd_X3_meet rfl hy rfl ⟨Nat.le_of_ble_eq_true rfl, Nat.le_of_ble_eq_true rfl⟩ (Nat.le_of_ble_eq_true rfl) (Nat.le_of_eq (Nat.add_zero _)) (Nat.le_of_eq (Nat.add_zero _)) (fun v2 u2 hp2 hd2 => ?_)
  obtain ⟨b0, k2, en3, ml3, rfl, hS2, hRM⟩ := cvT hp2
  obtain ⟨e1, e2, e3, e4⟩ := sT_un hS hS2
  rw [e1, e3, e4] at hRM
  have hW3 := wl_M hW2 hd2 hRM
  obtain ⟨fs3, hy3⟩ := wl_y hW3
  refine gj_st (st' := [.int b0]) rfl ?_
  refine gj_istore (lw' := [some (.ref b), some (.ref x), some (.ref y), some (.ref o), some (.int i), some (.int k0), some (.int b0)]) C dL_law_374 (by decide) rfl rfl ?_
  refine gj_aload_n C dL_law_376 rfl ?_
  obtain ⟨ad, ga, isR, r5, hrp⟩ := hRM
  refine gj_cVF (As := []) (rest := []) (nc := 10 * k) (ns := 2100 * k) C hV (k_Mthrown l D cI cN cZ cJ u2 y k0 nx en2 ml2 ad ga isR r5 _ hrp) hW3.1.2.1 dL_law_377 rfl w_385 rfl w_382 w_2 w_383 w_384 hd_X3_thrown rfl hy3 rfl ⟨Nat.le_of_ble_eq_true rfl, Nat.le_of_ble_eq_true rfl⟩ (Nat.le_of_ble_eq_true rfl) (Nat.le_of_eq (Nat.add_zero _)) (Nat.le_of_eq (Nat.add_zero _)) (fun v3 u3 hp3 hd3 => ?_)
  refine gj_rt (w := some (.int k0)) (st' := [.int k0]) hp3.1 ((congrArg _ hp3.2).trans (gm_fr_sub hW3.1.2.1)) rfl ?_
  refine gj_iload C dL_law_380 rfl ?_
  refine gj_icmp_eqT (tgt := 387) C dL_law_382 (by decide) rfl ?_
  refine gj_iload C dL_law_387 rfl ?_
  refine gj_if_ne (tgt := 404) C dL_law_389 (by decide) (fun z0 => ?_) (fun z0 => ?_)
  · refine gj_goto (tgt := 778) C dL_law_404 (by decide) ?_
    refine gj_un 5 rfl (gj_un 6 rfl ?_)
    exact hk _ _ _ _ _ _ _ _ hW3 (sT_wf hS hf)
  · refine gj_aload_n C dL_law_392 rfl ?_
    refine gj_iconst (v := 0) C dL_law_393 (by decide) ?_
    refine gj_lald C 3 dL_law_394 hW3.1.2.2 rfl in_01 ?_
    refine gj_iload C dL_law_395 rfl ?_
    refine gj_i2l C dL_law_397 ?_
    refine gj_lcmp C dL_law_398 ?_
    refine gj_if_eqT (tgt := 404) C dL_law_399 (by decide) (lcmp_0 (h0 z0) (e2 z0)) ?_
    refine gj_goto (tgt := 778) C dL_law_404 (by decide) ?_
    refine gj_un 5 rfl (gj_un 6 rfl ?_)
    exact hk _ _ _ _ _ _ _ _ hW3 (sT_wf hS hf)
set_option maxRecDepth 100000 in
set_option maxHeartbeats 4000000 in
theorem law_9 {p : Program} {l : Launch} {e : Env} {s : State} {m : MethodId} {below : List Frame} {meth : Method} {c : Code} {D : va_G} {A : Nat → Prop} {cI cN cZ cJ : ClassId} {b L : Nat} {xs : Nat → Int32} {Q : State → Prop} (hC : lC p l s m c D A cI cN cZ cJ b L xs) {F gX gM : gm} {x y o : Nat} {g : Nat → Int64} {cd : Int32} {nx : Option Rc} {en : Nat → Option En} {ml : List Nat} {i : Int32} {k t : Nat} (hin : lI i L) (hW : wl cI cN cZ cJ F gX gM x y o g cd nx nx en en ml ml) (hf : wf t nx en) (ht : t < 512)
    (hk : ∀ (F' gX' gM' : gm) (g' : Nat → Int64) (cd' : Int32) (nx' : Option Rc) (en' : Nat → Option En) (ml' : List Nat), wl cI cN cZ cJ F' gX' gM' x y o g' cd' nx' nx' en' en' ml' ml' → wf (t + 1) nx' en' → gj p l e room_1 s m #[.ref b] below meth c D vwCl A 7 Q F' (10 * k) (2100 * k) 778 [some (.ref b), some (.ref x), some (.ref y), some (.ref o), some (.int i), none, none] []) : gj p l e room_1 s m #[.ref b] below meth c D vwCl A 7 Q F (10 * (k + 1)) (2100 * (k + 1)) 482 [some (.ref b), some (.ref x), some (.ref y), some (.ref o), some (.int i), none, none] [] := by
  obtain ⟨C, hV, hV2, hZ, hX, hbl, hbA, hl⟩ := hC
  by_cases hz : (xs (i + 2).toNatClampNeg) = 0
  · refine gj_aload_n C dL_law_482 rfl ?_
    refine gj_aload_n C dL_law_483 rfl ?_
    refine gj_iload C dL_law_484 rfl ?_
    refine gj_iconst (v := 1) C dL_law_486 (by decide) ?_
    refine gj_iadd C dL_law_487 ?_
    refine gj_sld C hX hbl hbA hin.2.1 dL_law_488 ?_
    refine gj_aload_n C dL_law_489 rfl ?_
    refine gj_iload C dL_law_490 rfl ?_
    refine gj_iconst (v := 2) C dL_law_492 (by decide) ?_
    refine gj_iadd C dL_law_493 ?_
    refine gj_sld C hX hbl hbA hin.2.2.1 dL_law_494 ?_
    refine gj_if_eqT (tgt := 502) C dL_law_495 (by decide) hz ?_
    refine gj_iconst (v := 0) C dL_law_502 (by decide) ?_
    refine gj_aload_n C dL_law_503 rfl ?_
    refine gj_iload C dL_law_504 rfl ?_
    refine gj_iconst (v := 3) C dL_law_506 (by decide) ?_
    refine gj_iadd C dL_law_507 ?_
    refine gj_sld C hX hbl hbA hin.2.2.2.1 dL_law_508 ?_
    refine gj_aload_n C dL_law_509 rfl ?_
    refine gj_iload C dL_law_510 rfl ?_
    refine gj_iconst (v := 4) C dL_law_512 (by decide) ?_
    refine gj_iadd C dL_law_513 ?_
    refine gj_sld C hX hbl hbA hin.2.2.2.2.1 dL_law_514 ?_
    refine gj_aload_n C dL_law_515 rfl ?_
    refine gj_cSX (As := [.ref x, .int (xs (i + 1).toNatClampNeg), .int (bI false), .int (xs (i + 3).toNatClampNeg), .int (xs (i + 4).toNatClampNeg), .ref o]) (rest := []) (nc := 10 * k) (ns := 2100 * k) C hV hV2 hZ (kL_insert l hl D cI cN cZ cJ F gX gM x y o g cd nx nx en en ml ml (xs (i + 1).toNatClampNeg) false (xs (i + 3).toNatClampNeg) (xs (i + 4).toNatClampNeg) hW hf.2.1) (fun _ _ h => h) dL_law_516 rfl w_260 rfl w_258 w_0 w_259 hd_L_insert rfl ⟨Nat.le_of_ble_eq_true rfl, Nat.le_of_ble_eq_true rfl⟩ (Nat.le_of_ble_eq_true rfl) (show 10 * k + 1 ≤ 10 * (k + 1) by omega) (show 2100 * k + 6 ≤ 2100 * (k + 1) by omega) (fun v u hp hd => ?_)
    obtain ⟨k0, a0, en2, ml2, gX2, g2, rfl, hS, h0, hW2⟩ := hp
    obtain ⟨fs2, hy⟩ := wl_y hW2
    refine gj_f gm_fr_self ?_
    refine gj_st (st' := [.int k0]) rfl ?_
    refine gj_istore (lw' := [some (.ref b), some (.ref x), some (.ref y), some (.ref o), some (.int i), some (.int k0), none]) C dL_law_519 (by decide) rfl rfl ?_
    refine gj_aload_n C dL_law_521 rfl ?_
    refine gj_aload_n C dL_law_522 rfl ?_
    refine gj_iload C dL_law_523 rfl ?_
    refine gj_iconst (v := 1) C dL_law_525 (by decide) ?_
    refine gj_iadd C dL_law_526 ?_
    refine gj_sld C hX hbl hbA hin.2.1 dL_law_527 ?_
    refine gj_aload_n C dL_law_528 rfl ?_
    refine gj_iload C dL_law_529 rfl ?_
    refine gj_iconst (v := 2) C dL_law_531 (by decide) ?_
    refine gj_iadd C dL_law_532 ?_
    refine gj_sld C hX hbl hbA hin.2.2.1 dL_law_533 ?_
    refine gj_if_eqT (tgt := 541) C dL_law_534 (by decide) hz ?_
    refine gj_iconst (v := 0) C dL_law_541 (by decide) ?_
    refine gj_aload_n C dL_law_542 rfl ?_
    refine gj_iload C dL_law_543 rfl ?_
    refine gj_iconst (v := 3) C dL_law_545 (by decide) ?_
    refine gj_iadd C dL_law_546 ?_
    refine gj_sld C hX hbl hbA hin.2.2.2.1 dL_law_547 ?_
    refine gj_aload_n C dL_law_548 rfl ?_
    refine gj_iload C dL_law_549 rfl ?_
    refine gj_iconst (v := 4) C dL_law_551 (by decide) ?_
    refine gj_iadd C dL_law_552 ?_
    refine gj_sld C hX hbl hbA hin.2.2.2.2.1 dL_law_553 ?_
    refine gj_cVF (As := [.int (xs (i + 1).toNatClampNeg), .int (bI false), .int (xs (i + 3).toNatClampNeg), .int (xs (i + 4).toNatClampNeg)]) (rest := []) (nc := 10 * k) (ns := 2100 * k) C hV (k_Minsert l D cI cN cZ cJ gM y cd nx en ml (xs (i + 1).toNatClampNeg) false (xs (i + 3).toNatClampNeg) (xs (i + 4).toNatClampNeg) hW2.2.2.2 hf.2.1) hW2.1.2.1 dL_law_554 rfl w_445 rfl w_442 w_2 w_443 w_444 hd_X3_insert rfl hy rfl ⟨Nat.le_of_ble_eq_true rfl, Nat.le_of_ble_eq_true rfl⟩ (Nat.le_of_ble_eq_true rfl) (Nat.le_of_eq (Nat.add_zero _)) (Nat.le_of_eq (Nat.add_zero _)) (fun v2 u2 hp2 hd2 => ?_)
    obtain ⟨b0, k2, en3, ml3, rfl, hS2, hRM⟩ := cvI hp2
    obtain ⟨e1, e2, e3, e4⟩ := sI_un hS hS2
    rw [e1, e3, e4] at hRM
    have hW3 := wl_M hW2 hd2 hRM
    obtain ⟨fs3, hy3⟩ := wl_y hW3
    refine gj_st (st' := [.int b0]) rfl ?_
    refine gj_istore (lw' := [some (.ref b), some (.ref x), some (.ref y), some (.ref o), some (.int i), some (.int k0), some (.int b0)]) C dL_law_557 (by decide) rfl rfl ?_
    refine gj_aload_n C dL_law_559 rfl ?_
    obtain ⟨ad, ga, isR, r5, hrp⟩ := hRM
    refine gj_cVF (As := []) (rest := []) (nc := 10 * k) (ns := 2100 * k) C hV (k_Mthrown l D cI cN cZ cJ u2 y k0 nx en2 ml2 ad ga isR r5 _ hrp) hW3.1.2.1 dL_law_560 rfl w_385 rfl w_382 w_2 w_383 w_384 hd_X3_thrown rfl hy3 rfl ⟨Nat.le_of_ble_eq_true rfl, Nat.le_of_ble_eq_true rfl⟩ (Nat.le_of_ble_eq_true rfl) (Nat.le_of_eq (Nat.add_zero _)) (Nat.le_of_eq (Nat.add_zero _)) (fun v3 u3 hp3 hd3 => ?_)
    refine gj_rt (w := some (.int k0)) (st' := [.int k0]) hp3.1 ((congrArg _ hp3.2).trans (gm_fr_sub hW3.1.2.1)) rfl ?_
    refine gj_iload C dL_law_563 rfl ?_
    refine gj_icmp_eqT (tgt := 570) C dL_law_565 (by decide) rfl ?_
    refine gj_iload C dL_law_570 rfl ?_
    refine gj_if_ne (tgt := 587) C dL_law_572 (by decide) (fun z0 => ?_) (fun z0 => ?_)
    · refine gj_goto (tgt := 778) C dL_law_587 (by decide) ?_
      refine gj_un 5 rfl (gj_un 6 rfl ?_)
      exact hk _ _ _ _ _ _ _ _ hW3 (sI_wf hS hf)
    · refine gj_aload_n C dL_law_575 rfl ?_
      refine gj_iconst (v := 0) C dL_law_576 (by decide) ?_
      refine gj_lald C 3 dL_law_577 hW3.1.2.2 rfl in_01 ?_
      refine gj_iload C dL_law_578 rfl ?_
      refine gj_i2l C dL_law_580 ?_
      refine gj_lcmp C dL_law_581 ?_
      refine gj_if_eqT (tgt := 587) C dL_law_582 (by decide) (lcmp_0 (h0 z0) (e2 z0)) ?_
      refine gj_goto (tgt := 778) C dL_law_587 (by decide) ?_
      refine gj_un 5 rfl (gj_un 6 rfl ?_)
      exact hk _ _ _ _ _ _ _ _ hW3 (sI_wf hS hf)
  · refine gj_aload_n C dL_law_482 rfl ?_
    refine gj_aload_n C dL_law_483 rfl ?_
    refine gj_iload C dL_law_484 rfl ?_
    refine gj_iconst (v := 1) C dL_law_486 (by decide) ?_
    refine gj_iadd C dL_law_487 ?_
    refine gj_sld C hX hbl hbA hin.2.1 dL_law_488 ?_
    refine gj_aload_n C dL_law_489 rfl ?_
    refine gj_iload C dL_law_490 rfl ?_
    refine gj_iconst (v := 2) C dL_law_492 (by decide) ?_
    refine gj_iadd C dL_law_493 ?_
    refine gj_sld C hX hbl hbA hin.2.2.1 dL_law_494 ?_
    refine gj_if_eqF (tgt := 502) C dL_law_495 (by decide) hz ?_
    refine gj_iconst (v := 1) C dL_law_498 (by decide) ?_
    refine gj_goto (tgt := 503) C dL_law_499 (by decide) ?_
    refine gj_aload_n C dL_law_503 rfl ?_
    refine gj_iload C dL_law_504 rfl ?_
    refine gj_iconst (v := 3) C dL_law_506 (by decide) ?_
    refine gj_iadd C dL_law_507 ?_
    refine gj_sld C hX hbl hbA hin.2.2.2.1 dL_law_508 ?_
    refine gj_aload_n C dL_law_509 rfl ?_
    refine gj_iload C dL_law_510 rfl ?_
    refine gj_iconst (v := 4) C dL_law_512 (by decide) ?_
    refine gj_iadd C dL_law_513 ?_
    refine gj_sld C hX hbl hbA hin.2.2.2.2.1 dL_law_514 ?_
    refine gj_aload_n C dL_law_515 rfl ?_
    refine gj_cSX (As := [.ref x, .int (xs (i + 1).toNatClampNeg), .int (bI true), .int (xs (i + 3).toNatClampNeg), .int (xs (i + 4).toNatClampNeg), .ref o]) (rest := []) (nc := 10 * k) (ns := 2100 * k) C hV hV2 hZ (kL_insert l hl D cI cN cZ cJ F gX gM x y o g cd nx nx en en ml ml (xs (i + 1).toNatClampNeg) true (xs (i + 3).toNatClampNeg) (xs (i + 4).toNatClampNeg) hW hf.2.1) (fun _ _ h => h) dL_law_516 rfl w_260 rfl w_258 w_0 w_259 hd_L_insert rfl ⟨Nat.le_of_ble_eq_true rfl, Nat.le_of_ble_eq_true rfl⟩ (Nat.le_of_ble_eq_true rfl) (show 10 * k + 1 ≤ 10 * (k + 1) by omega) (show 2100 * k + 6 ≤ 2100 * (k + 1) by omega) (fun v u hp hd => ?_)
    obtain ⟨k0, a0, en2, ml2, gX2, g2, rfl, hS, h0, hW2⟩ := hp
    obtain ⟨fs2, hy⟩ := wl_y hW2
    refine gj_f gm_fr_self ?_
    refine gj_st (st' := [.int k0]) rfl ?_
    refine gj_istore (lw' := [some (.ref b), some (.ref x), some (.ref y), some (.ref o), some (.int i), some (.int k0), none]) C dL_law_519 (by decide) rfl rfl ?_
    refine gj_aload_n C dL_law_521 rfl ?_
    refine gj_aload_n C dL_law_522 rfl ?_
    refine gj_iload C dL_law_523 rfl ?_
    refine gj_iconst (v := 1) C dL_law_525 (by decide) ?_
    refine gj_iadd C dL_law_526 ?_
    refine gj_sld C hX hbl hbA hin.2.1 dL_law_527 ?_
    refine gj_aload_n C dL_law_528 rfl ?_
    refine gj_iload C dL_law_529 rfl ?_
    refine gj_iconst (v := 2) C dL_law_531 (by decide) ?_
    refine gj_iadd C dL_law_532 ?_
    refine gj_sld C hX hbl hbA hin.2.2.1 dL_law_533 ?_
    refine gj_if_eqF (tgt := 541) C dL_law_534 (by decide) hz ?_
    refine gj_iconst (v := 1) C dL_law_537 (by decide) ?_
    refine gj_goto (tgt := 542) C dL_law_538 (by decide) ?_
    refine gj_aload_n C dL_law_542 rfl ?_
    refine gj_iload C dL_law_543 rfl ?_
    refine gj_iconst (v := 3) C dL_law_545 (by decide) ?_
    refine gj_iadd C dL_law_546 ?_
    refine gj_sld C hX hbl hbA hin.2.2.2.1 dL_law_547 ?_
    refine gj_aload_n C dL_law_548 rfl ?_
    refine gj_iload C dL_law_549 rfl ?_
    refine gj_iconst (v := 4) C dL_law_551 (by decide) ?_
    refine gj_iadd C dL_law_552 ?_
    refine gj_sld C hX hbl hbA hin.2.2.2.2.1 dL_law_553 ?_
    refine gj_cVF (As := [.int (xs (i + 1).toNatClampNeg), .int (bI true), .int (xs (i + 3).toNatClampNeg), .int (xs (i + 4).toNatClampNeg)]) (rest := []) (nc := 10 * k) (ns := 2100 * k) C hV (k_Minsert l D cI cN cZ cJ gM y cd nx en ml (xs (i + 1).toNatClampNeg) true (xs (i + 3).toNatClampNeg) (xs (i + 4).toNatClampNeg) hW2.2.2.2 hf.2.1) hW2.1.2.1 dL_law_554 rfl w_445 rfl w_442 w_2 w_443 w_444 hd_X3_insert rfl hy rfl ⟨Nat.le_of_ble_eq_true rfl, Nat.le_of_ble_eq_true rfl⟩ (Nat.le_of_ble_eq_true rfl) (Nat.le_of_eq (Nat.add_zero _)) (Nat.le_of_eq (Nat.add_zero _)) (fun v2 u2 hp2 hd2 => ?_)
    obtain ⟨b0, k2, en3, ml3, rfl, hS2, hRM⟩ := cvI hp2
    obtain ⟨e1, e2, e3, e4⟩ := sI_un hS hS2
    rw [e1, e3, e4] at hRM
    have hW3 := wl_M hW2 hd2 hRM
    obtain ⟨fs3, hy3⟩ := wl_y hW3
    refine gj_st (st' := [.int b0]) rfl ?_
    refine gj_istore (lw' := [some (.ref b), some (.ref x), some (.ref y), some (.ref o), some (.int i), some (.int k0), some (.int b0)]) C dL_law_557 (by decide) rfl rfl ?_
    refine gj_aload_n C dL_law_559 rfl ?_
    obtain ⟨ad, ga, isR, r5, hrp⟩ := hRM
    refine gj_cVF (As := []) (rest := []) (nc := 10 * k) (ns := 2100 * k) C hV (k_Mthrown l D cI cN cZ cJ u2 y k0 nx en2 ml2 ad ga isR r5 _ hrp) hW3.1.2.1 dL_law_560 rfl w_385 rfl w_382 w_2 w_383 w_384 hd_X3_thrown rfl hy3 rfl ⟨Nat.le_of_ble_eq_true rfl, Nat.le_of_ble_eq_true rfl⟩ (Nat.le_of_ble_eq_true rfl) (Nat.le_of_eq (Nat.add_zero _)) (Nat.le_of_eq (Nat.add_zero _)) (fun v3 u3 hp3 hd3 => ?_)
    refine gj_rt (w := some (.int k0)) (st' := [.int k0]) hp3.1 ((congrArg _ hp3.2).trans (gm_fr_sub hW3.1.2.1)) rfl ?_
    refine gj_iload C dL_law_563 rfl ?_
    refine gj_icmp_eqT (tgt := 570) C dL_law_565 (by decide) rfl ?_
    refine gj_iload C dL_law_570 rfl ?_
    refine gj_if_ne (tgt := 587) C dL_law_572 (by decide) (fun z0 => ?_) (fun z0 => ?_)
    · refine gj_goto (tgt := 778) C dL_law_587 (by decide) ?_
      refine gj_un 5 rfl (gj_un 6 rfl ?_)
      exact hk _ _ _ _ _ _ _ _ hW3 (sI_wf hS hf)
    · refine gj_aload_n C dL_law_575 rfl ?_
      refine gj_iconst (v := 0) C dL_law_576 (by decide) ?_
      refine gj_lald C 3 dL_law_577 hW3.1.2.2 rfl in_01 ?_
      refine gj_iload C dL_law_578 rfl ?_
      refine gj_i2l C dL_law_580 ?_
      refine gj_lcmp C dL_law_581 ?_
      refine gj_if_eqT (tgt := 587) C dL_law_582 (by decide) (lcmp_0 (h0 z0) (e2 z0)) ?_
      refine gj_goto (tgt := 778) C dL_law_587 (by decide) ?_
      refine gj_un 5 rfl (gj_un 6 rfl ?_)
      exact hk _ _ _ _ _ _ _ _ hW3 (sI_wf hS hf)
set_option maxRecDepth 100000 in
set_option maxHeartbeats 4000000 in
theorem law_10 {p : Program} {l : Launch} {e : Env} {s : State} {m : MethodId} {below : List Frame} {meth : Method} {c : Code} {D : va_G} {A : Nat → Prop} {cI cN cZ cJ : ClassId} {b L : Nat} {xs : Nat → Int32} {Q : State → Prop} (hC : lC p l s m c D A cI cN cZ cJ b L xs) {F gX gM : gm} {x y o : Nat} {g : Nat → Int64} {cd : Int32} {nx : Option Rc} {en : Nat → Option En} {ml : List Nat} {i : Int32} {k t : Nat} (hin : lI i L) (hW : wl cI cN cZ cJ F gX gM x y o g cd nx nx en en ml ml) (hf : wf t nx en) (ht : t < 512)
    (hk : ∀ (F' gX' gM' : gm) (g' : Nat → Int64) (cd' : Int32) (nx' : Option Rc) (en' : Nat → Option En) (ml' : List Nat), wl cI cN cZ cJ F' gX' gM' x y o g' cd' nx' nx' en' en' ml' ml' → wf (t + 1) nx' en' → gj p l e room_1 s m #[.ref b] below meth c D vwCl A 7 Q F' (10 * k) (2100 * k) 778 [some (.ref b), some (.ref x), some (.ref y), some (.ref o), some (.int i), none, none] []) : gj p l e room_1 s m #[.ref b] below meth c D vwCl A 7 Q F (10 * (k + 1)) (2100 * (k + 1)) 590 [some (.ref b), some (.ref x), some (.ref y), some (.ref o), some (.int i), none, none] [] := by
  obtain ⟨C, hV, hV2, hZ, hX, hbl, hbA, hl⟩ := hC
  by_cases hz : (xs (i + 2).toNatClampNeg) = 0
  · refine gj_aload_n C dL_law_590 rfl ?_
    refine gj_aload_n C dL_law_591 rfl ?_
    refine gj_iload C dL_law_592 rfl ?_
    refine gj_iconst (v := 1) C dL_law_594 (by decide) ?_
    refine gj_iadd C dL_law_595 ?_
    refine gj_sld C hX hbl hbA hin.2.1 dL_law_596 ?_
    refine gj_aload_n C dL_law_597 rfl ?_
    refine gj_iload C dL_law_598 rfl ?_
    refine gj_iconst (v := 2) C dL_law_600 (by decide) ?_
    refine gj_iadd C dL_law_601 ?_
    refine gj_sld C hX hbl hbA hin.2.2.1 dL_law_602 ?_
    refine gj_if_eqT (tgt := 610) C dL_law_603 (by decide) hz ?_
    refine gj_iconst (v := 0) C dL_law_610 (by decide) ?_
    refine gj_aload_n C dL_law_611 rfl ?_
    refine gj_iload C dL_law_612 rfl ?_
    refine gj_iconst (v := 3) C dL_law_614 (by decide) ?_
    refine gj_iadd C dL_law_615 ?_
    refine gj_sld C hX hbl hbA hin.2.2.2.1 dL_law_616 ?_
    refine gj_aload_n C dL_law_617 rfl ?_
    refine gj_iload C dL_law_618 rfl ?_
    refine gj_iconst (v := 4) C dL_law_620 (by decide) ?_
    refine gj_iadd C dL_law_621 ?_
    refine gj_sld C hX hbl hbA hin.2.2.2.2.1 dL_law_622 ?_
    refine gj_aload_n C dL_law_623 rfl ?_
    refine gj_cSX (As := [.ref x, .int (xs (i + 1).toNatClampNeg), .int (bI false), .int (xs (i + 3).toNatClampNeg), .int (xs (i + 4).toNatClampNeg), .ref o]) (rest := []) (nc := 10 * k) (ns := 2100 * k) C hV hV2 hZ (kL_delete l hl D cI cN cZ cJ F gX gM x y o g cd nx nx en en ml ml (xs (i + 1).toNatClampNeg) false (xs (i + 3).toNatClampNeg) (xs (i + 4).toNatClampNeg) hW hf.2.1) (fun _ _ h => h) dL_law_624 rfl w_294 rfl w_292 w_0 w_293 hd_L_delete rfl ⟨Nat.le_of_ble_eq_true rfl, Nat.le_of_ble_eq_true rfl⟩ (Nat.le_of_ble_eq_true rfl) (show 10 * k + 1 ≤ 10 * (k + 1) by omega) (show 2100 * k + 6 ≤ 2100 * (k + 1) by omega) (fun v u hp hd => ?_)
    obtain ⟨k0, a0, en2, ml2, gX2, g2, rfl, hS, h0, hW2⟩ := hp
    obtain ⟨fs2, hy⟩ := wl_y hW2
    refine gj_f gm_fr_self ?_
    refine gj_st (st' := [.int k0]) rfl ?_
    refine gj_istore (lw' := [some (.ref b), some (.ref x), some (.ref y), some (.ref o), some (.int i), some (.int k0), none]) C dL_law_627 (by decide) rfl rfl ?_
    refine gj_aload_n C dL_law_629 rfl ?_
    refine gj_aload_n C dL_law_630 rfl ?_
    refine gj_iload C dL_law_631 rfl ?_
    refine gj_iconst (v := 1) C dL_law_633 (by decide) ?_
    refine gj_iadd C dL_law_634 ?_
    refine gj_sld C hX hbl hbA hin.2.1 dL_law_635 ?_
    refine gj_aload_n C dL_law_636 rfl ?_
    refine gj_iload C dL_law_637 rfl ?_
    refine gj_iconst (v := 2) C dL_law_639 (by decide) ?_
    refine gj_iadd C dL_law_640 ?_
    refine gj_sld C hX hbl hbA hin.2.2.1 dL_law_641 ?_
    refine gj_if_eqT (tgt := 649) C dL_law_642 (by decide) hz ?_
    refine gj_iconst (v := 0) C dL_law_649 (by decide) ?_
    refine gj_aload_n C dL_law_650 rfl ?_
    refine gj_iload C dL_law_651 rfl ?_
    refine gj_iconst (v := 3) C dL_law_653 (by decide) ?_
    refine gj_iadd C dL_law_654 ?_
    refine gj_sld C hX hbl hbA hin.2.2.2.1 dL_law_655 ?_
    refine gj_aload_n C dL_law_656 rfl ?_
    refine gj_iload C dL_law_657 rfl ?_
    refine gj_iconst (v := 4) C dL_law_659 (by decide) ?_
    refine gj_iadd C dL_law_660 ?_
    refine gj_sld C hX hbl hbA hin.2.2.2.2.1 dL_law_661 ?_
    refine gj_cVF (As := [.int (xs (i + 1).toNatClampNeg), .int (bI false), .int (xs (i + 3).toNatClampNeg), .int (xs (i + 4).toNatClampNeg)]) (rest := []) (nc := 10 * k) (ns := 2100 * k) C hV (k_Mdelete l D cI cN cZ cJ gM y cd nx en ml (xs (i + 1).toNatClampNeg) false (xs (i + 3).toNatClampNeg) (xs (i + 4).toNatClampNeg) hW2.2.2.2 hf.2.1) hW2.1.2.1 dL_law_662 rfl w_472 rfl w_469 w_2 w_470 w_471 hd_X3_delete rfl hy rfl ⟨Nat.le_of_ble_eq_true rfl, Nat.le_of_ble_eq_true rfl⟩ (Nat.le_of_ble_eq_true rfl) (Nat.le_of_eq (Nat.add_zero _)) (Nat.le_of_eq (Nat.add_zero _)) (fun v2 u2 hp2 hd2 => ?_)
    obtain ⟨b0, k2, en3, ml3, rfl, hS2, hRM⟩ := cvX hp2
    obtain ⟨e1, e2, e3, e4⟩ := sX_un hS hS2
    rw [e1, e3, e4] at hRM
    have hW3 := wl_M hW2 hd2 hRM
    obtain ⟨fs3, hy3⟩ := wl_y hW3
    refine gj_st (st' := [.int b0]) rfl ?_
    refine gj_istore (lw' := [some (.ref b), some (.ref x), some (.ref y), some (.ref o), some (.int i), some (.int k0), some (.int b0)]) C dL_law_665 (by decide) rfl rfl ?_
    refine gj_aload_n C dL_law_667 rfl ?_
    obtain ⟨ad, ga, isR, r5, hrp⟩ := hRM
    refine gj_cVF (As := []) (rest := []) (nc := 10 * k) (ns := 2100 * k) C hV (k_Mthrown l D cI cN cZ cJ u2 y k0 nx en2 ml2 ad ga isR r5 _ hrp) hW3.1.2.1 dL_law_668 rfl w_385 rfl w_382 w_2 w_383 w_384 hd_X3_thrown rfl hy3 rfl ⟨Nat.le_of_ble_eq_true rfl, Nat.le_of_ble_eq_true rfl⟩ (Nat.le_of_ble_eq_true rfl) (Nat.le_of_eq (Nat.add_zero _)) (Nat.le_of_eq (Nat.add_zero _)) (fun v3 u3 hp3 hd3 => ?_)
    refine gj_rt (w := some (.int k0)) (st' := [.int k0]) hp3.1 ((congrArg _ hp3.2).trans (gm_fr_sub hW3.1.2.1)) rfl ?_
    refine gj_iload C dL_law_671 rfl ?_
    refine gj_icmp_eqT (tgt := 678) C dL_law_673 (by decide) rfl ?_
    refine gj_iload C dL_law_678 rfl ?_
    refine gj_if_ne (tgt := 695) C dL_law_680 (by decide) (fun z0 => ?_) (fun z0 => ?_)
    · refine gj_goto (tgt := 778) C dL_law_695 (by decide) ?_
      refine gj_un 5 rfl (gj_un 6 rfl ?_)
      exact hk _ _ _ _ _ _ _ _ hW3 (sX_wf hS hf)
    · refine gj_aload_n C dL_law_683 rfl ?_
      refine gj_iconst (v := 0) C dL_law_684 (by decide) ?_
      refine gj_lald C 3 dL_law_685 hW3.1.2.2 rfl in_01 ?_
      refine gj_iload C dL_law_686 rfl ?_
      refine gj_i2l C dL_law_688 ?_
      refine gj_lcmp C dL_law_689 ?_
      refine gj_if_eqT (tgt := 695) C dL_law_690 (by decide) (lcmp_0 (h0 z0) (e2 z0)) ?_
      refine gj_goto (tgt := 778) C dL_law_695 (by decide) ?_
      refine gj_un 5 rfl (gj_un 6 rfl ?_)
      exact hk _ _ _ _ _ _ _ _ hW3 (sX_wf hS hf)
  · refine gj_aload_n C dL_law_590 rfl ?_
    refine gj_aload_n C dL_law_591 rfl ?_
    refine gj_iload C dL_law_592 rfl ?_
    refine gj_iconst (v := 1) C dL_law_594 (by decide) ?_
    refine gj_iadd C dL_law_595 ?_
    refine gj_sld C hX hbl hbA hin.2.1 dL_law_596 ?_
    refine gj_aload_n C dL_law_597 rfl ?_
    refine gj_iload C dL_law_598 rfl ?_
    refine gj_iconst (v := 2) C dL_law_600 (by decide) ?_
    refine gj_iadd C dL_law_601 ?_
    refine gj_sld C hX hbl hbA hin.2.2.1 dL_law_602 ?_
    refine gj_if_eqF (tgt := 610) C dL_law_603 (by decide) hz ?_
    refine gj_iconst (v := 1) C dL_law_606 (by decide) ?_
    refine gj_goto (tgt := 611) C dL_law_607 (by decide) ?_
    refine gj_aload_n C dL_law_611 rfl ?_
    refine gj_iload C dL_law_612 rfl ?_
    refine gj_iconst (v := 3) C dL_law_614 (by decide) ?_
    refine gj_iadd C dL_law_615 ?_
    refine gj_sld C hX hbl hbA hin.2.2.2.1 dL_law_616 ?_
    refine gj_aload_n C dL_law_617 rfl ?_
    refine gj_iload C dL_law_618 rfl ?_
    refine gj_iconst (v := 4) C dL_law_620 (by decide) ?_
    refine gj_iadd C dL_law_621 ?_
    refine gj_sld C hX hbl hbA hin.2.2.2.2.1 dL_law_622 ?_
    refine gj_aload_n C dL_law_623 rfl ?_
    refine gj_cSX (As := [.ref x, .int (xs (i + 1).toNatClampNeg), .int (bI true), .int (xs (i + 3).toNatClampNeg), .int (xs (i + 4).toNatClampNeg), .ref o]) (rest := []) (nc := 10 * k) (ns := 2100 * k) C hV hV2 hZ (kL_delete l hl D cI cN cZ cJ F gX gM x y o g cd nx nx en en ml ml (xs (i + 1).toNatClampNeg) true (xs (i + 3).toNatClampNeg) (xs (i + 4).toNatClampNeg) hW hf.2.1) (fun _ _ h => h) dL_law_624 rfl w_294 rfl w_292 w_0 w_293 hd_L_delete rfl ⟨Nat.le_of_ble_eq_true rfl, Nat.le_of_ble_eq_true rfl⟩ (Nat.le_of_ble_eq_true rfl) (show 10 * k + 1 ≤ 10 * (k + 1) by omega) (show 2100 * k + 6 ≤ 2100 * (k + 1) by omega) (fun v u hp hd => ?_)
    obtain ⟨k0, a0, en2, ml2, gX2, g2, rfl, hS, h0, hW2⟩ := hp
    obtain ⟨fs2, hy⟩ := wl_y hW2
    refine gj_f gm_fr_self ?_
    refine gj_st (st' := [.int k0]) rfl ?_
    refine gj_istore (lw' := [some (.ref b), some (.ref x), some (.ref y), some (.ref o), some (.int i), some (.int k0), none]) C dL_law_627 (by decide) rfl rfl ?_
    refine gj_aload_n C dL_law_629 rfl ?_
    refine gj_aload_n C dL_law_630 rfl ?_
    refine gj_iload C dL_law_631 rfl ?_
    refine gj_iconst (v := 1) C dL_law_633 (by decide) ?_
    refine gj_iadd C dL_law_634 ?_
    refine gj_sld C hX hbl hbA hin.2.1 dL_law_635 ?_
    refine gj_aload_n C dL_law_636 rfl ?_
    refine gj_iload C dL_law_637 rfl ?_
    refine gj_iconst (v := 2) C dL_law_639 (by decide) ?_
    refine gj_iadd C dL_law_640 ?_
    refine gj_sld C hX hbl hbA hin.2.2.1 dL_law_641 ?_
    refine gj_if_eqF (tgt := 649) C dL_law_642 (by decide) hz ?_
    refine gj_iconst (v := 1) C dL_law_645 (by decide) ?_
    refine gj_goto (tgt := 650) C dL_law_646 (by decide) ?_
    refine gj_aload_n C dL_law_650 rfl ?_
    refine gj_iload C dL_law_651 rfl ?_
    refine gj_iconst (v := 3) C dL_law_653 (by decide) ?_
    refine gj_iadd C dL_law_654 ?_
    refine gj_sld C hX hbl hbA hin.2.2.2.1 dL_law_655 ?_
    refine gj_aload_n C dL_law_656 rfl ?_
    refine gj_iload C dL_law_657 rfl ?_
    refine gj_iconst (v := 4) C dL_law_659 (by decide) ?_
    refine gj_iadd C dL_law_660 ?_
    refine gj_sld C hX hbl hbA hin.2.2.2.2.1 dL_law_661 ?_
    refine gj_cVF (As := [.int (xs (i + 1).toNatClampNeg), .int (bI true), .int (xs (i + 3).toNatClampNeg), .int (xs (i + 4).toNatClampNeg)]) (rest := []) (nc := 10 * k) (ns := 2100 * k) C hV (k_Mdelete l D cI cN cZ cJ gM y cd nx en ml (xs (i + 1).toNatClampNeg) true (xs (i + 3).toNatClampNeg) (xs (i + 4).toNatClampNeg) hW2.2.2.2 hf.2.1) hW2.1.2.1 dL_law_662 rfl w_472 rfl w_469 w_2 w_470 w_471 hd_X3_delete rfl hy rfl ⟨Nat.le_of_ble_eq_true rfl, Nat.le_of_ble_eq_true rfl⟩ (Nat.le_of_ble_eq_true rfl) (Nat.le_of_eq (Nat.add_zero _)) (Nat.le_of_eq (Nat.add_zero _)) (fun v2 u2 hp2 hd2 => ?_)
    obtain ⟨b0, k2, en3, ml3, rfl, hS2, hRM⟩ := cvX hp2
    obtain ⟨e1, e2, e3, e4⟩ := sX_un hS hS2
    rw [e1, e3, e4] at hRM
    have hW3 := wl_M hW2 hd2 hRM
    obtain ⟨fs3, hy3⟩ := wl_y hW3
    refine gj_st (st' := [.int b0]) rfl ?_
    refine gj_istore (lw' := [some (.ref b), some (.ref x), some (.ref y), some (.ref o), some (.int i), some (.int k0), some (.int b0)]) C dL_law_665 (by decide) rfl rfl ?_
    refine gj_aload_n C dL_law_667 rfl ?_
    obtain ⟨ad, ga, isR, r5, hrp⟩ := hRM
    refine gj_cVF (As := []) (rest := []) (nc := 10 * k) (ns := 2100 * k) C hV (k_Mthrown l D cI cN cZ cJ u2 y k0 nx en2 ml2 ad ga isR r5 _ hrp) hW3.1.2.1 dL_law_668 rfl w_385 rfl w_382 w_2 w_383 w_384 hd_X3_thrown rfl hy3 rfl ⟨Nat.le_of_ble_eq_true rfl, Nat.le_of_ble_eq_true rfl⟩ (Nat.le_of_ble_eq_true rfl) (Nat.le_of_eq (Nat.add_zero _)) (Nat.le_of_eq (Nat.add_zero _)) (fun v3 u3 hp3 hd3 => ?_)
    refine gj_rt (w := some (.int k0)) (st' := [.int k0]) hp3.1 ((congrArg _ hp3.2).trans (gm_fr_sub hW3.1.2.1)) rfl ?_
    refine gj_iload C dL_law_671 rfl ?_
    refine gj_icmp_eqT (tgt := 678) C dL_law_673 (by decide) rfl ?_
    refine gj_iload C dL_law_678 rfl ?_
    refine gj_if_ne (tgt := 695) C dL_law_680 (by decide) (fun z0 => ?_) (fun z0 => ?_)
    · refine gj_goto (tgt := 778) C dL_law_695 (by decide) ?_
      refine gj_un 5 rfl (gj_un 6 rfl ?_)
      exact hk _ _ _ _ _ _ _ _ hW3 (sX_wf hS hf)
    · refine gj_aload_n C dL_law_683 rfl ?_
      refine gj_iconst (v := 0) C dL_law_684 (by decide) ?_
      refine gj_lald C 3 dL_law_685 hW3.1.2.2 rfl in_01 ?_
      refine gj_iload C dL_law_686 rfl ?_
      refine gj_i2l C dL_law_688 ?_
      refine gj_lcmp C dL_law_689 ?_
      refine gj_if_eqT (tgt := 695) C dL_law_690 (by decide) (lcmp_0 (h0 z0) (e2 z0)) ?_
      refine gj_goto (tgt := 778) C dL_law_695 (by decide) ?_
      refine gj_un 5 rfl (gj_un 6 rfl ?_)
      exact hk _ _ _ _ _ _ _ _ hW3 (sX_wf hS hf)
set_option maxRecDepth 100000 in
set_option maxHeartbeats 4000000 in
theorem law_11 {p : Program} {l : Launch} {e : Env} {s : State} {m : MethodId} {below : List Frame} {meth : Method} {c : Code} {D : va_G} {A : Nat → Prop} {cI cN cZ cJ : ClassId} {b L : Nat} {xs : Nat → Int32} {Q : State → Prop} (hC : lC p l s m c D A cI cN cZ cJ b L xs) {F gX gM : gm} {x y o : Nat} {g : Nat → Int64} {cd : Int32} {nx : Option Rc} {en : Nat → Option En} {ml : List Nat} {i : Int32} {k t : Nat} (hin : lI i L) (hW : wl cI cN cZ cJ F gX gM x y o g cd nx nx en en ml ml) (hf : wf t nx en) (ht : t < 512)
    (hk : ∀ (F' gX' gM' : gm) (g' : Nat → Int64) (cd' : Int32) (nx' : Option Rc) (en' : Nat → Option En) (ml' : List Nat), wl cI cN cZ cJ F' gX' gM' x y o g' cd' nx' nx' en' en' ml' ml' → wf (t + 1) nx' en' → gj p l e room_1 s m #[.ref b] below meth c D vwCl A 7 Q F' (10 * k) (2100 * k) 778 [some (.ref b), some (.ref x), some (.ref y), some (.ref o), some (.int i), none, none] []) : gj p l e room_1 s m #[.ref b] below meth c D vwCl A 7 Q F (10 * (k + 1)) (2100 * (k + 1)) 698 [some (.ref b), some (.ref x), some (.ref y), some (.ref o), some (.int i), none, none] [] := by
  obtain ⟨C, hV, hV2, hZ, hX, hbl, hbA, hl⟩ := hC
  refine gj_aload_n C dL_law_698 rfl ?_
  refine gj_aload_n C dL_law_699 rfl ?_
  refine gj_iload C dL_law_700 rfl ?_
  refine gj_iconst (v := 1) C dL_law_702 (by decide) ?_
  refine gj_iadd C dL_law_703 ?_
  refine gj_sld C hX hbl hbA hin.2.1 dL_law_704 ?_
  refine gj_aload_n C dL_law_705 rfl ?_
  refine gj_iload C dL_law_706 rfl ?_
  refine gj_iconst (v := 2) C dL_law_708 (by decide) ?_
  refine gj_iadd C dL_law_709 ?_
  refine gj_sld C hX hbl hbA hin.2.2.1 dL_law_710 ?_
  refine gj_aload_n C dL_law_711 rfl ?_
  refine gj_iload C dL_law_712 rfl ?_
  refine gj_iconst (v := 3) C dL_law_714 (by decide) ?_
  refine gj_iadd C dL_law_715 ?_
  refine gj_sld C hX hbl hbA hin.2.2.2.1 dL_law_716 ?_
  refine gj_aload_n C dL_law_717 rfl ?_
  refine gj_cSX (As := [.ref x, .int (xs (i + 1).toNatClampNeg), .int (xs (i + 2).toNatClampNeg), .int (xs (i + 3).toNatClampNeg), .ref o]) (rest := []) (nc := 10 * k) (ns := 2100 * k) C hV hV2 hZ (kL_move l hl D cI cN cZ cJ F gX gM x y o g cd nx nx en en ml ml (xs (i + 1).toNatClampNeg) (xs (i + 2).toNatClampNeg) (xs (i + 3).toNatClampNeg) hW) (fun _ _ h => h) dL_law_718 rfl w_304 rfl w_302 w_0 w_303 hd_L_move rfl ⟨Nat.le_of_ble_eq_true rfl, Nat.le_of_ble_eq_true rfl⟩ (Nat.le_of_ble_eq_true rfl) (show 10 * k + 2 ≤ 10 * (k + 1) by omega) (show 2100 * k + 11 ≤ 2100 * (k + 1) by omega) (fun v u hp hd => ?_)
  obtain ⟨k0, a0, en2, ml2, gX2, g2, rfl, hS, h0, hW2⟩ := hp
  obtain ⟨fs2, hy⟩ := wl_y hW2
  refine gj_f gm_fr_self ?_
  refine gj_st (st' := [.int k0]) rfl ?_
  refine gj_istore (lw' := [some (.ref b), some (.ref x), some (.ref y), some (.ref o), some (.int i), some (.int k0), none]) C dL_law_721 (by decide) rfl rfl ?_
  refine gj_aload_n C dL_law_723 rfl ?_
  refine gj_aload_n C dL_law_724 rfl ?_
  refine gj_iload C dL_law_725 rfl ?_
  refine gj_iconst (v := 1) C dL_law_727 (by decide) ?_
  refine gj_iadd C dL_law_728 ?_
  refine gj_sld C hX hbl hbA hin.2.1 dL_law_729 ?_
  refine gj_aload_n C dL_law_730 rfl ?_
  refine gj_iload C dL_law_731 rfl ?_
  refine gj_iconst (v := 2) C dL_law_733 (by decide) ?_
  refine gj_iadd C dL_law_734 ?_
  refine gj_sld C hX hbl hbA hin.2.2.1 dL_law_735 ?_
  refine gj_aload_n C dL_law_736 rfl ?_
  refine gj_iload C dL_law_737 rfl ?_
  refine gj_iconst (v := 3) C dL_law_739 (by decide) ?_
  refine gj_iadd C dL_law_740 ?_
  refine gj_sld C hX hbl hbA hin.2.2.2.1 dL_law_741 ?_
  refine gj_cVF (As := [.int (xs (i + 1).toNatClampNeg), .int (xs (i + 2).toNatClampNeg), .int (xs (i + 3).toNatClampNeg)]) (rest := []) (nc := 10 * k) (ns := 2100 * k) C hV (k_Mmove l D cI cN cZ cJ gM y cd nx en ml (xs (i + 1).toNatClampNeg) (xs (i + 2).toNatClampNeg) (xs (i + 3).toNatClampNeg) hW2.2.2.2 hf.1) hW2.1.2.1 dL_law_742 rfl w_476 rfl w_473 w_2 w_474 w_475 hd_X3_move rfl hy rfl ⟨Nat.le_of_ble_eq_true rfl, Nat.le_of_ble_eq_true rfl⟩ (Nat.le_of_ble_eq_true rfl) (Nat.le_of_eq (Nat.add_zero _)) (Nat.le_of_eq (Nat.add_zero _)) (fun v2 u2 hp2 hd2 => ?_)
  obtain ⟨b0, k2, en3, ml3, rfl, hS2, hRM⟩ := cvM hp2
  obtain ⟨e1, e2, e3, e4⟩ := sM_un hS hS2
  rw [e1, e3, e4] at hRM
  have hW3 := wl_M hW2 hd2 hRM
  obtain ⟨fs3, hy3⟩ := wl_y hW3
  refine gj_st (st' := [.int b0]) rfl ?_
  refine gj_istore (lw' := [some (.ref b), some (.ref x), some (.ref y), some (.ref o), some (.int i), some (.int k0), some (.int b0)]) C dL_law_745 (by decide) rfl rfl ?_
  refine gj_aload_n C dL_law_747 rfl ?_
  obtain ⟨ad, ga, isR, r5, hrp⟩ := hRM
  refine gj_cVF (As := []) (rest := []) (nc := 10 * k) (ns := 2100 * k) C hV (k_Mthrown l D cI cN cZ cJ u2 y k0 nx en2 ml2 ad ga isR r5 _ hrp) hW3.1.2.1 dL_law_748 rfl w_385 rfl w_382 w_2 w_383 w_384 hd_X3_thrown rfl hy3 rfl ⟨Nat.le_of_ble_eq_true rfl, Nat.le_of_ble_eq_true rfl⟩ (Nat.le_of_ble_eq_true rfl) (Nat.le_of_eq (Nat.add_zero _)) (Nat.le_of_eq (Nat.add_zero _)) (fun v3 u3 hp3 hd3 => ?_)
  refine gj_rt (w := some (.int k0)) (st' := [.int k0]) hp3.1 ((congrArg _ hp3.2).trans (gm_fr_sub hW3.1.2.1)) rfl ?_
  refine gj_iload C dL_law_751 rfl ?_
  refine gj_icmp_eqT (tgt := 758) C dL_law_753 (by decide) rfl ?_
  refine gj_iload C dL_law_758 rfl ?_
  refine gj_if_ne (tgt := 775) C dL_law_760 (by decide) (fun z0 => ?_) (fun z0 => ?_)
  · refine gj_goto (tgt := 778) C dL_law_775 (by decide) ?_
    refine gj_un 5 rfl (gj_un 6 rfl ?_)
    exact hk _ _ _ _ _ _ _ _ hW3 (sM_wf hS hf)
  · refine gj_aload_n C dL_law_763 rfl ?_
    refine gj_iconst (v := 0) C dL_law_764 (by decide) ?_
    refine gj_lald C 3 dL_law_765 hW3.1.2.2 rfl in_01 ?_
    refine gj_iload C dL_law_766 rfl ?_
    refine gj_i2l C dL_law_768 ?_
    refine gj_lcmp C dL_law_769 ?_
    refine gj_if_eqT (tgt := 775) C dL_law_770 (by decide) (lcmp_0 (h0 z0) (e2 z0)) ?_
    refine gj_goto (tgt := 778) C dL_law_775 (by decide) ?_
    refine gj_un 5 rfl (gj_un 6 rfl ?_)
    exact hk _ _ _ _ _ _ _ _ hW3 (sM_wf hS hf)
