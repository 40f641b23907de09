/-! The law's helpers: what a call of the class answers, or which throw it makes. -/
set_option maxRecDepth 100000 in
set_option maxHeartbeats 4000000 in
theorem kL_add (l : Launch) (hl : l.stackTraces = false) (D : va_G) (cI cN cZ cJ : ClassId) (F gX gM : gm) (x y o : Nat) (g : Nat → Int64) (cd : Int32) (nx nx' : Option Rc) (en en' : Nat → Option En) (ml ml' : List Nat) (wo : Int32) (hW : wl cI cN cZ cJ F gX gM x y o g cd nx nx' en en' ml ml') (hb5 : ∀ j, 512 ≤ j → en j = none) : gkx l yL_add (.codeWith yL_add cL_add 4 (Option.some Jvm.ClassFile.FieldType.int) [(0, 9, 12, 13), (0, 9, 15, 15)]) (rmk 6 3 1031) D (tyl cI cN cZ cJ) [.ref x, .int wo, .ref o] F (fun v u => ∃ (k a : Int32) (en2 : Nat → Option En) (ml2 : List Nat) (gX2 : gm) (g2 : Nat → Int64), v = some (.int k) ∧ sA nx en ml k a en2 ml2 wo ∧ (k = 0 → g2 0 = Int32.toInt64 a) ∧ wl cI cN cZ cJ u gX2 gM x y o g2 cd nx nx' en2 en' ml2 ml') (fun _ _ => False) := by
  refine gkx_ofH [some (.ref x), some (.int wo), some (.ref o), none] (by decide) rfl (Nat.le_of_ble_eq_true rfl) rfl ?_
  intro p e s m args below meth c A C hV hr hlk hnm hV2 hZ hT
  obtain ⟨fs, hx⟩ := wl_x hW
  obtain ⟨n, hRp⟩ := hW.2.2.1
  refine gj_aload_n C dL_add_0 rfl ?_
  refine gj_iconst (v := 0) C dL_add_1 (by decide) ?_
  refine gj_aload_n C dL_add_2 rfl ?_
  refine gj_iload_n C dL_add_3 rfl ?_
  refine gj_cVX (As := [.int wo]) (rest := [.int 0, .ref o]) (nc := 0) (ns := 0) C hV hV2 hZ (k_add l hl D cI cN cZ cJ gX x nx en n ml wo hRp hb5) hW.1.1 dL_add_4 rfl w_118 rfl w_115 w_1 w_116 w_117 hd_X2_add rfl hx rfl ⟨Nat.le_of_ble_eq_true rfl, Nat.le_of_ble_eq_true rfl⟩ (Nat.le_of_ble_eq_true rfl) (Nat.le_of_ble_eq_true rfl) (Nat.le_of_ble_eq_true rfl) (fun E u hp hd => ?_) (fun v u hp hd => ?_)
  · obtain ⟨h1, rfl, h2⟩ := hp
    have hW2 := wl_X hW hd h2
    refine gjx_catch C hV hV2 [] ⟨0, 9, 12, 13⟩ [⟨0, 9, 15, 15⟩] (hT.trans rfl) (fun z hz => absurd hz List.not_mem_nil) rfl (by decide) w_113 (List.mem_of_getElem? (i := 0) rfl) (fun q => ?_)
    refine gj_astore_n (lw' := [some (.ref x), some (.int wo), some (.ref o), some (.ref q)]) C dL_add_12 (by decide) rfl rfl ?_
    refine gj_iconst (v := 1) C dL_add_13 (by decide) ?_
    exact gj_vx (gj_iret C hr hlk dL_add_14 (⟨1, 0, en, ml, u, g, rfl, Or.inr ⟨h1, rfl, rfl, rfl⟩, fun h => absurd h (by decide), hW2⟩))
  · obtain ⟨r9, i, n2, h1, h2, h3, rfl, h4⟩ := hp
    have hW2 := wl_X hW hd h4
    refine gj_st (st' := [.int (nI i), .int 0, .ref o]) rfl ?_
    refine gj_i2l C dL_add_7 ?_
    refine gj_last C 3 dL_add_8 hW2.1.2.2 rfl in_01 ?_
    refine gj_goto (tgt := 18) C dL_add_9 (by decide) ?_
    refine gj_iconst (v := 0) C dL_add_18 (by decide) ?_
    exact gj_vx (gj_iret C hr hlk dL_add_19 (⟨0, (nI i), _, _, u, _, rfl, Or.inl ⟨r9, i, h1, h2, h3, rfl, rfl, rfl, rfl⟩, fun _ => updL_0 _ _, wl_o hW2⟩))
set_option maxRecDepth 100000 in
set_option maxHeartbeats 4000000 in
theorem kL_readers (l : Launch) (hl : l.stackTraces = false) (D : va_G) (cI cN cZ cJ : ClassId) (F gX gM : gm) (x y o : Nat) (g : Nat → Int64) (cd : Int32) (nx nx' : Option Rc) (en en' : Nat → Option En) (ml ml' : List Nat) (sh rw co : Int32) (hW : wl cI cN cZ cJ F gX gM x y o g cd nx nx' en en' ml ml') : gkx l yL_readers (.codeWith yL_readers cL_readers 6 (Option.some Jvm.ClassFile.FieldType.int) [(0, 12, 15, 13)]) (rmk 6 2 1030) D (tyl cI cN cZ cJ) [.ref x, .int sh, .int rw, .int co, .ref o] F (fun v u => ∃ (k a : Int32) (en2 : Nat → Option En) (ml2 : List Nat) (gX2 : gm) (g2 : Nat → Int64), v = some (.int k) ∧ sR en ml k a en2 ml2 sh rw co ∧ (k = 0 → g2 0 = Int32.toInt64 a) ∧ wl cI cN cZ cJ u gX2 gM x y o g2 cd nx nx' en2 en' ml2 ml') (fun _ _ => False) := by
  refine gkx_ofH [some (.ref x), some (.int sh), some (.int rw), some (.int co), some (.ref o), none] (by decide) rfl (Nat.le_of_ble_eq_true rfl) rfl ?_
  intro p e s m args below meth c A C hV hr hlk hnm hV2 hZ hT
  obtain ⟨fs, hx⟩ := wl_x hW
  obtain ⟨n, hRp⟩ := hW.2.2.1
  refine gj_aload C dL_readers_0 rfl ?_
  refine gj_iconst (v := 0) C dL_readers_2 (by decide) ?_
  refine gj_aload_n C dL_readers_3 rfl ?_
  refine gj_iload_n C dL_readers_4 rfl ?_
  refine gj_iload_n C dL_readers_5 rfl ?_
  refine gj_iload_n C dL_readers_6 rfl ?_
  refine gj_cVX (As := [.int sh, .int rw, .int co]) (rest := [.int 0, .ref o]) (nc := 0) (ns := 0) C hV hV2 hZ (k_readers l hl D cI cN cZ cJ gX x nx en n ml sh rw co hRp) hW.1.1 dL_readers_7 rfl w_241 rfl w_238 w_1 w_239 w_240 hd_X2_readers rfl hx rfl ⟨Nat.le_of_ble_eq_true rfl, Nat.le_of_ble_eq_true rfl⟩ (Nat.le_of_ble_eq_true rfl) (Nat.le_of_ble_eq_true rfl) (Nat.le_of_ble_eq_true rfl) (fun E u hp hd => ?_) (fun v u hp hd => ?_)
  · obtain ⟨h1, rfl, h2⟩ := hp
    have hW2 := wl_X hW hd h2
    refine gjx_catch C hV hV2 [] ⟨0, 12, 15, 13⟩ [] (hT.trans rfl) (fun z hz => absurd hz List.not_mem_nil) rfl (by decide) w_113 (List.mem_of_getElem? (i := 0) rfl) (fun q => ?_)
    refine gj_astore (lw' := [some (.ref x), some (.int sh), some (.int rw), some (.int co), some (.ref o), some (.ref q)]) C dL_readers_15 (by decide) rfl rfl ?_
    refine gj_iconst (v := 1) C dL_readers_17 (by decide) ?_
    exact gj_vx (gj_iret C hr hlk dL_readers_18 (⟨1, 0, en, ml, u, g, rfl, Or.inr ⟨h1, rfl, rfl, rfl⟩, fun h => absurd h (by decide), hW2⟩))
  · obtain ⟨h1, rfl, h4⟩ := hp
    have hW2 := wl_X hW hd h4
    refine gj_st (st' := [.int (nI (mls en (sh, rw, co, rw, co) 4096).length), .int 0, .ref o]) rfl ?_
    refine gj_i2l C dL_readers_10 ?_
    refine gj_last C 3 dL_readers_11 hW2.1.2.2 rfl in_01 ?_
    refine gj_goto (tgt := 19) C dL_readers_12 (by decide) ?_
    refine gj_iconst (v := 0) C dL_readers_19 (by decide) ?_
    exact gj_vx (gj_iret C hr hlk dL_readers_20 (⟨0, (nI (mls en (sh, rw, co, rw, co) 4096).length), _, _, u, _, rfl, Or.inl ⟨h1, rfl, rfl, rfl, rfl⟩, fun _ => updL_0 _ _, wl_o hW2⟩))
set_option maxRecDepth 100000 in
set_option maxHeartbeats 4000000 in
theorem kL_meet (l : Launch) (hl : l.stackTraces = false) (D : va_G) (cI cN cZ cJ : ClassId) (F gX gM : gm) (x y o : Nat) (g : Nat → Int64) (cd : Int32) (nx nx' : Option Rc) (en en' : Nat → Option En) (ml ml' : List Nat)  (hW : wl cI cN cZ cJ F gX gM x y o g cd nx nx' en en' ml ml') : gkx l yL_meet (.codeWith yL_meet cL_meet 3 (Option.some Jvm.ClassFile.FieldType.int) [(0, 8, 11, 15)]) (rmk 6 1 1024) D (tyl cI cN cZ cJ) [.ref x, .ref o] F (fun v u => ∃ (k a : Int32) (en2 : Nat → Option En) (ml2 : List Nat) (gX2 : gm) (g2 : Nat → Int64), v = some (.int k) ∧ sT nx en ml k a en2 ml2 ∧ (k = 0 → g2 0 = Int32.toInt64 a) ∧ wl cI cN cZ cJ u gX2 gM x y o g2 cd nx nx' en2 en' ml2 ml') (fun _ _ => False) := by
  refine gkx_ofH [some (.ref x), some (.ref o), none] (by decide) rfl (Nat.le_of_ble_eq_true rfl) rfl ?_
  intro p e s m args below meth c A C hV hr hlk hnm hV2 hZ hT
  obtain ⟨fs, hx⟩ := wl_x hW
  obtain ⟨n, hRp⟩ := hW.2.2.1
  refine gj_aload_n C dL_meet_0 rfl ?_
  refine gj_iconst (v := 0) C dL_meet_1 (by decide) ?_
  refine gj_aload_n C dL_meet_2 rfl ?_
  refine gj_cVX (As := []) (rest := [.int 0, .ref o]) (nc := 0) (ns := 0) C hV hV2 hZ (k_meet l hl D cI cN cZ cJ gX x nx en n ml hRp) hW.1.1 dL_meet_3 rfl w_257 rfl w_254 w_1 w_255 w_256 hd_X2_meet rfl hx rfl ⟨Nat.le_of_ble_eq_true rfl, Nat.le_of_ble_eq_true rfl⟩ (Nat.le_of_ble_eq_true rfl) (Nat.le_of_ble_eq_true rfl) (Nat.le_of_ble_eq_true rfl) (fun E u hp hd => ?_) (fun v u hp hd => ?_)
  · obtain ⟨h1, rfl, h2⟩ := hp
    have hW2 := wl_X hW hd h2
    refine gjx_catch C hV hV2 [] ⟨0, 8, 11, 15⟩ [] (hT.trans rfl) (fun z hz => absurd hz List.not_mem_nil) rfl (by decide) w_114 (List.mem_of_getElem? (i := 1) rfl) (fun q => ?_)
    refine gj_astore_n (lw' := [some (.ref x), some (.ref o), some (.ref q)]) C dL_meet_11 (by decide) rfl rfl ?_
    refine gj_iconst (v := 1) C dL_meet_12 (by decide) ?_
    exact gj_vx (gj_iret C hr hlk dL_meet_13 (⟨1, 0, en, ml, u, g, rfl, Or.inr ⟨h1, rfl, rfl, rfl⟩, fun h => absurd h (by decide), hW2⟩))
  · obtain ⟨r, h1, rfl, h4⟩ := hp
    have hW2 := wl_X hW hd h4
    refine gj_st (st' := [.int (nI (mls en r 4096).length), .int 0, .ref o]) rfl ?_
    refine gj_i2l C dL_meet_6 ?_
    refine gj_last C 3 dL_meet_7 hW2.1.2.2 rfl in_01 ?_
    refine gj_goto (tgt := 14) C dL_meet_8 (by decide) ?_
    refine gj_iconst (v := 0) C dL_meet_14 (by decide) ?_
    exact gj_vx (gj_iret C hr hlk dL_meet_15 (⟨0, (nI (mls en r 4096).length), _, _, u, _, rfl, Or.inl ⟨r, h1, rfl, rfl, rfl, rfl⟩, fun _ => updL_0 _ _, wl_o hW2⟩))
set_option maxRecDepth 100000 in
set_option maxHeartbeats 4000000 in
theorem kL_insert (l : Launch) (hl : l.stackTraces = false) (D : va_G) (cI cN cZ cJ : ClassId) (F gX gM : gm) (x y o : Nat) (g : Nat → Int64) (cd : Int32) (nx nx' : Option Rc) (en en' : Nat → Option En) (ml ml' : List Nat) (sh : Int32) (cs : Bool) (at0 num : Int32) (hW : wl cI cN cZ cJ F gX gM x y o g cd nx nx' en en' ml ml') (hval : ∀ j e, en j = some e → vr e.1) : gkx l yL_insert (.codeWith yL_insert cL_insert 7 (Option.some Jvm.ClassFile.FieldType.int) [(0, 14, 17, 13)]) (rmk 6 1 6) D (tyl cI cN cZ cJ) [.ref x, .int sh, .int (bI cs), .int at0, .int num, .ref o] F (fun v u => ∃ (k a : Int32) (en2 : Nat → Option En) (ml2 : List Nat) (gX2 : gm) (g2 : Nat → Int64), v = some (.int k) ∧ sI en ml k a en2 ml2 sh cs at0 num ∧ (k = 0 → g2 0 = Int32.toInt64 a) ∧ wl cI cN cZ cJ u gX2 gM x y o g2 cd nx nx' en2 en' ml2 ml') (fun _ _ => False) := by
  refine gkx_ofH [some (.ref x), some (.int sh), some (.int (bI cs)), some (.int at0), some (.int num), some (.ref o), none] (by decide) rfl (Nat.le_of_ble_eq_true rfl) rfl ?_
  intro p e s m args below meth c A C hV hr hlk hnm hV2 hZ hT
  obtain ⟨fs, hx⟩ := wl_x hW
  obtain ⟨n, hRp⟩ := hW.2.2.1
  refine gj_aload C dL_insert_0 rfl ?_
  refine gj_iconst (v := 0) C dL_insert_2 (by decide) ?_
  refine gj_aload_n C dL_insert_3 rfl ?_
  refine gj_iload_n C dL_insert_4 rfl ?_
  refine gj_iload_n C dL_insert_5 rfl ?_
  refine gj_iload_n C dL_insert_6 rfl ?_
  refine gj_iload C dL_insert_7 rfl ?_
  refine gj_cVX (As := [.int sh, .int (bI cs), .int at0, .int num]) (rest := [.int 0, .ref o]) (nc := 0) (ns := 0) C hV hV2 hZ (k_insert l hl D cI cN cZ cJ gX x nx en n ml sh cs at0 num hRp hval) hW.1.1 dL_insert_9 rfl w_264 rfl w_261 w_1 w_262 w_263 hd_X2_insert rfl hx rfl ⟨Nat.le_of_ble_eq_true rfl, Nat.le_of_ble_eq_true rfl⟩ (Nat.le_of_ble_eq_true rfl) (Nat.le_of_ble_eq_true rfl) (Nat.le_of_ble_eq_true rfl) (fun E u hp hd => ?_) (fun v u hp hd => ?_)
  · obtain ⟨h1, rfl, h2⟩ := hp
    have hW2 := wl_X hW hd h2
    refine gjx_catch C hV hV2 [] ⟨0, 14, 17, 13⟩ [] (hT.trans rfl) (fun z hz => absurd hz List.not_mem_nil) rfl (by decide) w_113 (List.mem_of_getElem? (i := 0) rfl) (fun q => ?_)
    refine gj_astore (lw' := [some (.ref x), some (.int sh), some (.int (bI cs)), some (.int at0), some (.int num), some (.ref o), some (.ref q)]) C dL_insert_17 (by decide) rfl rfl ?_
    refine gj_iconst (v := 1) C dL_insert_19 (by decide) ?_
    exact gj_vx (gj_iret C hr hlk dL_insert_20 (⟨1, 0, en, ml, u, g, rfl, Or.inr ⟨h1, rfl, rfl, rfl⟩, fun h => absurd h (by decide), hW2⟩))
  · obtain ⟨h1, rfl, h4⟩ := hp
    have hW2 := wl_X hW hd h4
    refine gj_st (st' := [.int (nI (cbE (chI sh cs at0 num) en 4096)), .int 0, .ref o]) rfl ?_
    refine gj_i2l C dL_insert_12 ?_
    refine gj_last C 3 dL_insert_13 hW2.1.2.2 rfl in_01 ?_
    refine gj_goto (tgt := 21) C dL_insert_14 (by decide) ?_
    refine gj_iconst (v := 0) C dL_insert_21 (by decide) ?_
    exact gj_vx (gj_iret C hr hlk dL_insert_22 (⟨0, (nI (cbE (chI sh cs at0 num) en 4096)), _, _, u, _, rfl, Or.inl ⟨h1, rfl, rfl, rfl, rfl⟩, fun _ => updL_0 _ _, wl_o hW2⟩))
set_option maxRecDepth 100000 in
set_option maxHeartbeats 4000000 in
theorem kL_delete (l : Launch) (hl : l.stackTraces = false) (D : va_G) (cI cN cZ cJ : ClassId) (F gX gM : gm) (x y o : Nat) (g : Nat → Int64) (cd : Int32) (nx nx' : Option Rc) (en en' : Nat → Option En) (ml ml' : List Nat) (sh : Int32) (cs : Bool) (at0 num : Int32) (hW : wl cI cN cZ cJ F gX gM x y o g cd nx nx' en en' ml ml') (hval : ∀ j e, en j = some e → vr e.1) : gkx l yL_delete (.codeWith yL_delete cL_delete 7 (Option.some Jvm.ClassFile.FieldType.int) [(0, 14, 17, 13)]) (rmk 6 1 6) D (tyl cI cN cZ cJ) [.ref x, .int sh, .int (bI cs), .int at0, .int num, .ref o] F (fun v u => ∃ (k a : Int32) (en2 : Nat → Option En) (ml2 : List Nat) (gX2 : gm) (g2 : Nat → Int64), v = some (.int k) ∧ sX en ml k a en2 ml2 sh cs at0 num ∧ (k = 0 → g2 0 = Int32.toInt64 a) ∧ wl cI cN cZ cJ u gX2 gM x y o g2 cd nx nx' en2 en' ml2 ml') (fun _ _ => False) := by
  refine gkx_ofH [some (.ref x), some (.int sh), some (.int (bI cs)), some (.int at0), some (.int num), some (.ref o), none] (by decide) rfl (Nat.le_of_ble_eq_true rfl) rfl ?_
  intro p e s m args below meth c A C hV hr hlk hnm hV2 hZ hT
  obtain ⟨fs, hx⟩ := wl_x hW
  obtain ⟨n, hRp⟩ := hW.2.2.1
  refine gj_aload C dL_delete_0 rfl ?_
  refine gj_iconst (v := 0) C dL_delete_2 (by decide) ?_
  refine gj_aload_n C dL_delete_3 rfl ?_
  refine gj_iload_n C dL_delete_4 rfl ?_
  refine gj_iload_n C dL_delete_5 rfl ?_
  refine gj_iload_n C dL_delete_6 rfl ?_
  refine gj_iload C dL_delete_7 rfl ?_
  refine gj_cVX (As := [.int sh, .int (bI cs), .int at0, .int num]) (rest := [.int 0, .ref o]) (nc := 0) (ns := 0) C hV hV2 hZ (k_delete l hl D cI cN cZ cJ gX x nx en n ml sh cs at0 num hRp hval) hW.1.1 dL_delete_9 rfl w_298 rfl w_295 w_1 w_296 w_297 hd_X2_delete rfl hx rfl ⟨Nat.le_of_ble_eq_true rfl, Nat.le_of_ble_eq_true rfl⟩ (Nat.le_of_ble_eq_true rfl) (Nat.le_of_ble_eq_true rfl) (Nat.le_of_ble_eq_true rfl) (fun E u hp hd => ?_) (fun v u hp hd => ?_)
  · obtain ⟨h1, rfl, h2⟩ := hp
    have hW2 := wl_X hW hd h2
    refine gjx_catch C hV hV2 [] ⟨0, 14, 17, 13⟩ [] (hT.trans rfl) (fun z hz => absurd hz List.not_mem_nil) rfl (by decide) w_113 (List.mem_of_getElem? (i := 0) rfl) (fun q => ?_)
    refine gj_astore (lw' := [some (.ref x), some (.int sh), some (.int (bI cs)), some (.int at0), some (.int num), some (.ref o), some (.ref q)]) C dL_delete_17 (by decide) rfl rfl ?_
    refine gj_iconst (v := 1) C dL_delete_19 (by decide) ?_
    exact gj_vx (gj_iret C hr hlk dL_delete_20 (⟨1, 0, en, ml, u, g, rfl, Or.inr ⟨h1, rfl, rfl, rfl⟩, fun h => absurd h (by decide), hW2⟩))
  · obtain ⟨h1, rfl, h4⟩ := hp
    have hW2 := wl_X hW hd h4
    refine gj_st (st' := [.int (nI (cbE (chX sh cs at0 num) en 4096)), .int 0, .ref o]) rfl ?_
    refine gj_i2l C dL_delete_12 ?_
    refine gj_last C 3 dL_delete_13 hW2.1.2.2 rfl in_01 ?_
    refine gj_goto (tgt := 21) C dL_delete_14 (by decide) ?_
    refine gj_iconst (v := 0) C dL_delete_21 (by decide) ?_
    exact gj_vx (gj_iret C hr hlk dL_delete_22 (⟨0, (nI (cbE (chX sh cs at0 num) en 4096)), _, _, u, _, rfl, Or.inl ⟨h1, rfl, rfl, rfl, rfl⟩, fun _ => updL_0 _ _, wl_o hW2⟩))
set_option maxRecDepth 100000 in
set_option maxHeartbeats 4000000 in
theorem kL_move (l : Launch) (hl : l.stackTraces = false) (D : va_G) (cI cN cZ cJ : ClassId) (F gX gM : gm) (x y o : Nat) (g : Nat → Int64) (cd : Int32) (nx nx' : Option Rc) (en en' : Nat → Option En) (ml ml' : List Nat) (sh rw co : Int32) (hW : wl cI cN cZ cJ F gX gM x y o g cd nx nx' en en' ml ml') : gkx l yL_move (.codeWith yL_move cL_move 6 (Option.some Jvm.ClassFile.FieldType.int) [(0, 12, 15, 13), (0, 12, 19, 15)]) (rmk 6 2 11) D (tyl cI cN cZ cJ) [.ref x, .int sh, .int rw, .int co, .ref o] F (fun v u => ∃ (k a : Int32) (en2 : Nat → Option En) (ml2 : List Nat) (gX2 : gm) (g2 : Nat → Int64), v = some (.int k) ∧ sM nx en ml k a en2 ml2 sh rw co ∧ (k = 0 → g2 0 = Int32.toInt64 a) ∧ wl cI cN cZ cJ u gX2 gM x y o g2 cd nx nx' en2 en' ml2 ml') (fun _ _ => False) := by
  refine gkx_ofH [some (.ref x), some (.int sh), some (.int rw), some (.int co), some (.ref o), none] (by decide) rfl (Nat.le_of_ble_eq_true rfl) rfl ?_
  intro p e s m args below meth c A C hV hr hlk hnm hV2 hZ hT
  obtain ⟨fs, hx⟩ := wl_x hW
  obtain ⟨n, hRp⟩ := hW.2.2.1
  refine gj_aload C dL_move_0 rfl ?_
  refine gj_iconst (v := 0) C dL_move_2 (by decide) ?_
  refine gj_aload_n C dL_move_3 rfl ?_
  refine gj_iload_n C dL_move_4 rfl ?_
  refine gj_iload_n C dL_move_5 rfl ?_
  refine gj_iload_n C dL_move_6 rfl ?_
  refine gj_cVX (As := [.int sh, .int rw, .int co]) (rest := [.int 0, .ref o]) (nc := 0) (ns := 0) C hV hV2 hZ (k_move l hl D cI cN cZ cJ gX x nx en n ml sh rw co hRp) hW.1.1 dL_move_7 rfl w_308 rfl w_305 w_1 w_306 w_307 hd_X2_move rfl hx rfl ⟨Nat.le_of_ble_eq_true rfl, Nat.le_of_ble_eq_true rfl⟩ (Nat.le_of_ble_eq_true rfl) (Nat.le_of_ble_eq_true rfl) (Nat.le_of_ble_eq_true rfl) (fun E u hp hd => ?_) (fun v u hp hd => ?_)
  · rcases hp with ⟨⟨h1, rfl⟩ | ⟨h0, h1, rfl⟩ | ⟨h0, h1, rfl⟩, h2⟩
    · have hW2 := wl_X hW hd h2
      refine gjx_catch C hV hV2 [] ⟨0, 12, 15, 13⟩ [⟨0, 12, 19, 15⟩] (hT.trans rfl) (fun z hz => absurd hz List.not_mem_nil) rfl (by decide) w_113 (List.mem_of_getElem? (i := 0) rfl) (fun q => ?_)
      refine gj_astore (lw' := [some (.ref x), some (.int sh), some (.int rw), some (.int co), some (.ref o), some (.ref q)]) C dL_move_15 (by decide) rfl rfl ?_
      refine gj_iconst (v := 1) C dL_move_17 (by decide) ?_
      exact gj_vx (gj_iret C hr hlk dL_move_18 (⟨1, 0, en, ml, u, g, rfl, Or.inr (Or.inl ⟨Or.inl h1, rfl, rfl, rfl⟩), fun h => absurd h (by decide), hW2⟩))
    · have hW2 := wl_X hW hd h2
      refine gjx_catch C hV hV2 [⟨0, 12, 15, 13⟩] ⟨0, 12, 19, 15⟩ [] (hT.trans rfl) (fun z hz => by rw [List.mem_singleton] at hz; subst hz; exact ⟨by decide, _, w_113, List.mem_of_getElem? (i := 9) rfl⟩) rfl (by decide) w_114 (List.mem_of_getElem? (i := 1) rfl) (fun q => ?_)
      refine gj_astore (lw' := [some (.ref x), some (.int sh), some (.int rw), some (.int co), some (.ref o), some (.ref q)]) C dL_move_19 (by decide) rfl rfl ?_
      refine gj_iconst (v := 2) C dL_move_21 (by decide) ?_
      exact gj_vx (gj_iret C hr hlk dL_move_22 (⟨2, 0, en, ml, u, g, rfl, Or.inr (Or.inr ⟨h0, h1, rfl, rfl, rfl⟩), fun h => absurd h (by decide), hW2⟩))
    · have hW2 := wl_X hW hd h2
      refine gjx_catch C hV hV2 [] ⟨0, 12, 15, 13⟩ [⟨0, 12, 19, 15⟩] (hT.trans rfl) (fun z hz => absurd hz List.not_mem_nil) rfl (by decide) w_113 (List.mem_of_getElem? (i := 0) rfl) (fun q => ?_)
      refine gj_astore (lw' := [some (.ref x), some (.int sh), some (.int rw), some (.int co), some (.ref o), some (.ref q)]) C dL_move_15 (by decide) rfl rfl ?_
      refine gj_iconst (v := 1) C dL_move_17 (by decide) ?_
      exact gj_vx (gj_iret C hr hlk dL_move_18 (⟨1, 0, en, ml, u, g, rfl, Or.inr (Or.inl ⟨Or.inr ⟨h0, h1⟩, rfl, rfl, rfl⟩), fun h => absurd h (by decide), hW2⟩))
  · obtain ⟨r9, h1, h2, h3, rfl, h4⟩ := hp
    have hW2 := wl_X hW hd h4
    refine gj_st (st' := [.int (nI (cbE (chM r9 (rM sh (rw - r9.2.1) (co - r9.2.2.1) r9)) en 4096)), .int 0, .ref o]) rfl ?_
    refine gj_i2l C dL_move_10 ?_
    refine gj_last C 3 dL_move_11 hW2.1.2.2 rfl in_01 ?_
    refine gj_goto (tgt := 23) C dL_move_12 (by decide) ?_
    refine gj_iconst (v := 0) C dL_move_23 (by decide) ?_
    exact gj_vx (gj_iret C hr hlk dL_move_24 (⟨0, (nI (cbE (chM r9 (rM sh (rw - r9.2.1) (co - r9.2.2.1) r9)) en 4096)), _, _, u, _, rfl, Or.inl ⟨r9, h1, h2, h3, rfl, rfl, rfl, rfl⟩, fun _ => updL_0 _ _, wl_o hW2⟩))
