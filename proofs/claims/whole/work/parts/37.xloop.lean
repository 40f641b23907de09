/-! The law's loop. -/
theorem and15 (w : Int32) : 0 ≤ (w &&& 15).toInt ∧ (w &&& 15).toInt ≤ 15 := by
  have h : (w &&& 15).toBitVec.toNat ≤ 15 := by
    rw [Int32.toBitVec_and, BitVec.toNat_and]
    exact Nat.and_le_right
  have h2 : (w &&& 15).toInt = ((w &&& 15).toBitVec.toNat : Int) := by
    show (w &&& 15).toBitVec.toInt = _
    rw [BitVec.toInt_eq_toNat_of_lt (by omega)]
  omega
theorem t_6 : (6 : Int32).toInt = 6 := by decide +kernel
theorem lI_of {t L : Nat} (h : 6 * t + 6 ≤ L) (hL : L ≤ 3072) : lI (nI (6 * t)) L := by
  have e1 : nI (6 * t) + 1 = nI (6 * t + 1) := nI_add _ 1
  have e2 : nI (6 * t) + 2 = nI (6 * t + 2) := nI_add _ 2
  have e3 : nI (6 * t) + 3 = nI (6 * t + 3) := nI_add _ 3
  have e4 : nI (6 * t) + 4 = nI (6 * t + 4) := nI_add _ 4
  have e5 : nI (6 * t) + 5 = nI (6 * t + 5) := nI_add _ 5
  unfold lI
  rw [e1, e2, e3, e4, e5]
  exact ⟨vp_in_nI (by omega) (by omega), vp_in_nI (by omega) (by omega), vp_in_nI (by omega) (by omega), vp_in_nI (by omega) (by omega), vp_in_nI (by omega) (by omega), vp_in_nI (by omega) (by omega)⟩
theorem lp_go {t L : Nat} (h6 : 6 * t ≤ L) (hL : L ≤ 3072) (h : ¬ nI L - 6 < nI (6 * t)) : 6 * t + 6 ≤ L := by
  have e1 : (nI L).toInt = (L : Int) := nI_toInt (by omega)
  have e2 : (nI (6 * t)).toInt = ((6 * t : Nat) : Int) := nI_toInt (by omega)
  have e3 : (nI L - 6).toInt = (L : Int) - 6 := by rw [i_sub (by rw [e1, t_6]; omega) (by rw [e1, t_6]; omega), e1, t_6]
  rw [i_lt, e3, e2] at h
  omega
theorem nI_6 (t : Nat) : nI (6 * t) + Int32.ofInt 6 = nI (6 * (t + 1)) := nI_add (6 * t) 6
set_option maxRecDepth 100000 in
set_option maxHeartbeats 4000000 in
theorem law_loop {p : Program} {l : Launch} {e : Env} {s : State} {m : MethodId} {below : List Frame} {meth : Method} {c : Code} {D : va_G} {A : Nat → Prop} {cI cN cZ cJ : ClassId} {b L : Nat} {xs : Nat → Int32} {Q : State → Prop} (hC : lC p l s m c D A cI cN cZ cJ b L xs) (hL : L ≤ 3072) {x y o : Nat} (hend : ∀ (F : gm) (i : Int32) (nc ns : Nat), gj p l e room_1 s m #[.ref b] below meth c D vwCl A 7 Q F (nc) (ns) 784 [some (.ref b), some (.ref x), some (.ref y), some (.ref o), some (.int i), none, none] []) :
    ∀ (k t : Nat) (F gX gM : gm) (g : Nat → Int64) (cd : Int32) (nx : Option Rc) (en : Nat → Option En) (ml : List Nat), t + k = 512 → 6 * t ≤ L → wl cI cN cZ cJ F gX gM x y o g cd nx nx en en ml ml → wf t nx en → gj p l e room_1 s m #[.ref b] below meth c D vwCl A 7 Q F (10 * k) (2100 * k) 23 [some (.ref b), some (.ref x), some (.ref y), some (.ref o), some (.int (nI (6 * t))), none, none] [] := by
  obtain ⟨C, hV, hV2, hZ, hX, hbl, hbA, hl⟩ := id hC
  intro k
  induction k with
  | zero =>
    intro t F gX gM g cd nx en ml htk h6 hW hf
    refine gj_iload C dL_law_23 rfl ?_
    refine gj_aload_n C dL_law_25 rfl ?_
    refine gj_slen C hX hbl hbA dL_law_26 ?_
    refine gj_bipush (v := 6) C dL_law_27 (by decide) ?_
    refine gj_isub C dL_law_29 ?_
    refine gj_icmp_gt (tgt := 784) C dL_law_30 (by decide) (fun _ => hend _ _ _ _) (fun hc => ?_)
    exact absurd (lp_go h6 hL hc) (by omega)
  | succ k ih =>
    intro t F gX gM g cd nx en ml htk h6 hW hf
    refine gj_iload C dL_law_23 rfl ?_
    refine gj_aload_n C dL_law_25 rfl ?_
    refine gj_slen C hX hbl hbA dL_law_26 ?_
    refine gj_bipush (v := 6) C dL_law_27 (by decide) ?_
    refine gj_isub C dL_law_29 ?_
    refine gj_icmp_gt (tgt := 784) C dL_law_30 (by decide) (fun _ => hend _ _ _ _) (fun hc => ?_)
    have h7 := lp_go h6 hL hc
    have hin := lI_of h7 hL
    have hk : ∀ (F' gX' gM' : gm) (g' : Nat → Int64) (cd' : Int32) (nx' : Option Rc) (en' : Nat → Option En) (ml' : List Nat), wl cI cN cZ cJ F' gX' gM' x y o g' cd' nx' nx' en' en' ml' ml' → wf (t + 1) nx' en' → gj p l e room_1 s m #[.ref b] below meth c D vwCl A 7 Q F' (10 * k) (2100 * k) 778 [some (.ref b), some (.ref x), some (.ref y), some (.ref o), some (.int (nI (6 * t))), none, none] [] := by
      intro F2 gX2 gM2 g2 cd2 nx2 en2 ml2 hW2 hf2
      refine gj_iinc (v := nI (6 * (t + 1))) (lw' := [some (.ref b), some (.ref x), some (.ref y), some (.ref o), some (.int (nI (6 * (t + 1)))), none, none]) C dL_law_778 rfl (nI_6 t) (by decide) rfl rfl ?_
      refine gj_goto (tgt := 23) C dL_law_781 (by decide) ?_
      exact ih (t + 1) F2 gX2 gM2 g2 cd2 nx2 en2 ml2 (by omega) (by omega) hW2 hf2
    refine gj_aload_n C dL_law_33 rfl ?_
    refine gj_iload C dL_law_34 rfl ?_
    refine gj_sld C hX hbl hbA hin.1 dL_law_36 ?_
    refine gj_bipush (v := 15) C dL_law_37 (by decide) ?_
    refine gj_iand C dL_law_39 ?_
    have hv := and15 (xs (nI (6 * t)).toNatClampNeg)
    generalize xs (nI (6 * t)).toNatClampNeg &&& 15 = w at hv ⊢
    rcases (show w.toInt = 0 ∨ w.toInt = 1 ∨ w.toInt = 2 ∨ w.toInt = 3 ∨ w.toInt = 4 ∨ w.toInt = 5 ∨ w.toInt = 6 ∨ w.toInt = 7 ∨ w.toInt = 8 ∨ w.toInt = 9 ∨ w.toInt = 10 ∨ w.toInt = 11 ∨ 11 < w.toInt by omega) with h | h | h | h | h | h | h | h | h | h | h | h | h
    · refine gj_tabIn (tgt := 104) (off := 64) C dL_law_40 (by rw [h]; decide) (by rw [h]; decide) (by rw [h]; rfl) (by decide) ?_
      exact law_0 hC hin hW hf (by omega) hk
    · refine gj_tabIn (tgt := 177) (off := 137) C dL_law_40 (by rw [h]; decide) (by rw [h]; decide) (by rw [h]; rfl) (by decide) ?_
      exact law_1 hC hin hW hf (by omega) hk
    · refine gj_tabIn (tgt := 233) (off := 193) C dL_law_40 (by rw [h]; decide) (by rw [h]; decide) (by rw [h]; rfl) (by decide) ?_
      exact law_2 hC hin hW hf (by omega) hk
    · refine gj_tabIn (tgt := 258) (off := 218) C dL_law_40 (by rw [h]; decide) (by rw [h]; decide) (by rw [h]; rfl) (by decide) ?_
      exact law_3 hC hin hW hf (by omega) hk
    · refine gj_tabIn (tgt := 283) (off := 243) C dL_law_40 (by rw [h]; decide) (by rw [h]; decide) (by rw [h]; rfl) (by decide) ?_
      exact law_4 hC hin hW hf (by omega) hk
    · refine gj_tabIn (tgt := 363) (off := 323) C dL_law_40 (by rw [h]; decide) (by rw [h]; decide) (by rw [h]; rfl) (by decide) ?_
      exact law_5 hC hin hW hf (by omega) hk
    · refine gj_tabIn (tgt := 407) (off := 367) C dL_law_40 (by rw [h]; decide) (by rw [h]; decide) (by rw [h]; rfl) (by decide) ?_
      exact law_6 hC hin hW hf (by omega) hk
    · refine gj_tabIn (tgt := 432) (off := 392) C dL_law_40 (by rw [h]; decide) (by rw [h]; decide) (by rw [h]; rfl) (by decide) ?_
      exact law_7 hC hin hW hf (by omega) hk
    · refine gj_tabIn (tgt := 469) (off := 429) C dL_law_40 (by rw [h]; decide) (by rw [h]; decide) (by rw [h]; rfl) (by decide) ?_
      exact law_8 hC hin hW hf (by omega) hk
    · refine gj_tabIn (tgt := 482) (off := 442) C dL_law_40 (by rw [h]; decide) (by rw [h]; decide) (by rw [h]; rfl) (by decide) ?_
      exact law_9 hC hin hW hf (by omega) hk
    · refine gj_tabIn (tgt := 590) (off := 550) C dL_law_40 (by rw [h]; decide) (by rw [h]; decide) (by rw [h]; rfl) (by decide) ?_
      exact law_10 hC hin hW hf (by omega) hk
    · refine gj_tabIn (tgt := 698) (off := 658) C dL_law_40 (by rw [h]; decide) (by rw [h]; decide) (by rw [h]; rfl) (by decide) ?_
      exact law_11 hC hin hW hf (by omega) hk
    · refine gj_tabOut (tgt := 778) C dL_law_40 (Or.inr h) (by decide) ?_
      exact gj_nc (by omega) (by omega) (hk _ _ _ _ _ _ _ _ hW (hf.mono (by omega)))
/-- the world at the loop's first round -/
theorem wl_start {cI cN cZ cJ : ClassId} {u1 u2 g0 : gm} {x y o : Nat} {cy : va_E} {g : Nat → Int64} (hg0 : g0 = gm_up (fun _ => none) y cy) (h1 : Rp cI cN u1 x none (fun _ => none) 16 []) (hy : u1 y = none) (hd : ∀ q, u2 q ≠ none → g0 q ≠ none ∨ gm_up u1 y cy q = none) (h2 : RpM cI cZ u2 y 0 none (fun _ => none) []) (ho : gm_fr (gm_up u1 y cy) g0 u2 o = none) : wl cI cN cZ cJ (gm_up (gm_fr (gm_up u1 y cy) g0 u2) o (aJ cJ g)) u1 u2 x y o g 0 none none (fun _ => none) (fun _ => none) [] [] := by
  subst hg0
  have a1 : ∀ a z, u1 a = some z → gm_fr (gm_up u1 y cy) (gm_up (fun _ => none) y cy) u2 a = some z := fun a z hz => by
    have hay : a ≠ y := fun e => by rw [e, hy] at hz; cases hz
    exact gm_fr_out (by rw [gm_up_ne hay]; exact hz) (by rw [gm_up_ne hay])
  have a2 : ∀ a z, u2 a = some z → gm_fr (gm_up u1 y cy) (gm_up (fun _ => none) y cy) u2 a = some z := fun a z hz => gm_fr_in hd hz
  have o1 : u1 o = none := by
    cases h : u1 o with
    | none => rfl
    | some z => rw [a1 o z h] at ho; cases ho
  have o2 : u2 o = none := by
    cases h : u2 o with
    | none => rfl
    | some z => rw [a2 o z h] at ho; cases ho
  refine ⟨⟨fun a z hz => ?_, fun a z hz => ?_, gm_up_self⟩, ⟨fun q hq => ?_, o1, o2⟩, ⟨16, h1⟩, h2⟩
  · rw [gm_up_ne (fun e => by rw [e, o1] at hz; cases hz)]; exact a1 a z hz
  · rw [gm_up_ne (fun e => by rw [e, o2] at hz; cases hz)]; exact a2 a z hz
  · cases h : u2 q with
    | none => rfl
    | some z =>
      have hqy : q ≠ y := fun e => by rw [e] at hq; exact hq hy
      rcases hd q (by rw [h]; exact fun z => by cases z) with h3 | h3
      · rw [gm_up_ne hqy] at h3; exact absurd rfl h3
      · rw [gm_up_ne hqy] at h3; exact absurd h3 hq
section IF
variable {p : Program} {l : Launch} {e : Env} {R : Room} {s : State} {m : MethodId} {args : Array Value} {below : List Frame} {meth : Method} {c : Code} {D : va_G} {A : Nat → Prop} {nL : Nat} {Q : State → Prop} {f g : gm} {nc ns pc : Nat} {lw : List (Option Value)} {st rest : List Value} {cc : ByteArray} {own : String} {tys : List (ClassId × FieldType)} {post : Option Value → gm → Prop} {y : MethodName} {cw : Cond} {rm : Room} {bytes : ByteArray} {maxL n index : Nat} {As st0 : List Value} {b nc0 ns0 : Nat}
/-- a constructor, over the part g of the map -/
theorem gj_cIF (C : gx p m c cc nL s args gW own D vwCl tys A) (hE : gk_E D tys s) (hM : gk l y cw rm D tys (.ref b :: As) g post) (hg : ∀ a x, g a = some x → f a = some x) (d : decode cc pc = .ok (.invokespecial index, 3)) (hst : st0 = As.reverse ++ .ref b :: rest) (hcw : cw ∈ gW) (hw : cw = Cond.code y bytes maxL none) (hlk : Cond.methodLink own index y ∈ gW) (hini : Cond.initialized y.cls ∈ gW) (hin : Cond.instanceMethod y ∈ gW) (hy1 : y.name = "<init>")
    (hd : y.cls ≠ "java/lang/invoke/MethodHandle" ∧ y.cls ≠ "java/lang/invoke/VarHandle" ∧ (parseMethodDescriptor y.desc).map (fun d => d.parameters.length) = some n) (hn : As.length = n) (hR : rm.frames + 1 ≤ R.frames ∧ 8 + (maxL + 11) + rm.locals ≤ R.locals) (hW : (rest.map fun v => v.category).sum ≤ 8)
    (h1 : nc + rm.cells ≤ nc0) (h2 : ns + rm.slots ≤ ns0) (kk : ∀ (v : Option Value) (u : gm), post v u → (∀ q, u q ≠ none → g q ≠ none ∨ f q = none) → gj p l e R s m args below meth c D vwCl A nL Q (gm_fr f g u) nc ns (pc + 3) lw (v.toList ++ rest)) :
    gj p l e R s m args below meth c D vwCl A nL Q f nc0 ns0 pc lw st0 := by
  subst hst
  exact gj_nc h1 h2 <| gj_callF C hg (fun H locs cells slots ls h1 h2 h3 h4 hl => va_runI (As := As) (rest := rest) C.1 (hM H.size) (cwI n C.1.2.2.2.2 (gW_good hcw) (by rw [hw]) rfl rfl (C.1.2.2.2.2 _ hini) (C.1.2.2.2.2 _ hlk) (C.1.2.2.2.2 _ hin) hy1 hd hR) ⟨gk_blind, gk_pre hE h1 hg⟩ rfl hn hl.1 rfl (lv_room hW) d ⟨by omega, by omega⟩) kk
end IF
set_option maxRecDepth 100000 in
set_option maxHeartbeats 4000000 in
theorem law_start {p : Program} {l : Launch} {e : Env} {s : State} {m : MethodId} {below : List Frame} {meth : Method} {c : Code} {D : va_G} {A : Nat → Prop} {cI cN cZ cJ : ClassId} {b L : Nat} {xs : Nat → Int32} {Q : State → Prop} (hC : lC p l s m c D A cI cN cZ cJ b L xs) (hL : L ≤ 3072) (hend : ∀ (x y o : Nat) (F : gm) (i : Int32) (nc ns : Nat), gj p l e room_1 s m #[.ref b] below meth c D vwCl A 7 Q F (nc) (ns) 784 [some (.ref b), some (.ref x), some (.ref y), some (.ref o), some (.int i), none, none] []) : gj p l e room_1 s m #[.ref b] below meth c D vwCl A 7 Q (fun _ => none) (601024) (7293034) 0 [some (.ref b), none, none, none, none, none, none] [] := by
  obtain ⟨C, hV, hV2, hZ, hX, hbl, hbA, hl⟩ := id hC
  refine gj_new (ci := 2) (nc := 601023) (ns := 7293029) C dL_law_0 rfl inX2 tyX2_ok w_11 w_12 w_1 dfX2 (by decide) (by decide) (fun x hx => ?_)
  refine gj_dup C dL_law_3 rfl ?_
  refine gj_cIF (As := []) (rest := [.ref x]) (nc := 601021) (ns := 7292997) C hV (k_init l D cI cN cZ cJ _ x gm_up_self) (fun _ _ h => h) dL_law_4 rfl w_15 rfl w_13 w_1 w_14 rfl hd_X2_init rfl ⟨Nat.le_of_ble_eq_true rfl, Nat.le_of_ble_eq_true rfl⟩ (Nat.le_of_ble_eq_true rfl) (Nat.le_of_ble_eq_true rfl) (Nat.le_of_ble_eq_true rfl) (fun vx ux hpx hdx => ?_)
  refine gj_f gm_fr_self ?_
  refine gj_rt (w := none) (st' := [.ref x]) hpx.1 rfl rfl ?_
  refine gj_astore_n (lw' := [some (.ref b), some (.ref x), none, none, none, none, none]) C dL_law_7 (by decide) rfl rfl ?_
  refine gj_new (ci := 3) (nc := 601020) (ns := 7292980) C dL_law_8 rfl inX3 tyX3_ok w_323 w_324 w_2 dfX3 (by decide) (by decide) (fun y hy => ?_)
  refine gj_dup C dL_law_11 rfl ?_
  have hsub : ∀ a z, gm_up (fun _ => none) y (.inr (3, [.int 0, .null, .null, .null, .null, .null, .null, .null, .int 0, .int 0, .int 0, .int 0, .int 0, .int 0, .int 0, .int 0, .null])) a = some z → gm_up ux y (.inr (3, [.int 0, .null, .null, .null, .null, .null, .null, .null, .int 0, .int 0, .int 0, .int 0, .int 0, .int 0, .int 0, .int 0, .null])) a = some z := by
    intro a z hz
    by_cases e1 : a = y
    · rw [e1, gm_up_self] at hz ⊢; exact hz
    · rw [gm_up_ne e1] at hz; cases hz
  refine gj_cIF (As := []) (rest := [.ref y]) (nc := 601012) (ns := 7260212) C hV (k_Minit l D cI cN cZ cJ (gm_up (fun _ => none) y (.inr (3, [.int 0, .null, .null, .null, .null, .null, .null, .null, .int 0, .int 0, .int 0, .int 0, .int 0, .int 0, .int 0, .int 0, .null]))) y gm_up_self) hsub dL_law_12 rfl w_327 rfl w_325 w_2 w_326 rfl hd_X3_init rfl ⟨Nat.le_of_ble_eq_true rfl, Nat.le_of_ble_eq_true rfl⟩ (Nat.le_of_ble_eq_true rfl) (Nat.le_of_ble_eq_true rfl) (Nat.le_of_ble_eq_true rfl) (fun vy uy hpy hdy => ?_)
  refine gj_rt (w := none) (st' := [.ref y]) hpy.1 rfl rfl ?_
  refine gj_astore_n (lw' := [some (.ref b), some (.ref x), some (.ref y), none, none, none, none]) C dL_law_15 (by decide) rfl rfl ?_
  refine gj_iconst (v := 1) C dL_law_16 (by decide) ?_
  refine gj_newa (a0 := (1, .inr (.inl (fun _ => 0)))) (N := 1) (nc := 601011) (ns := 7260211) C 3 dL_law_17 rfl rfl w_481 (fun _ => rfl) (by decide) (by decide) (by decide) (by decide) (by decide) (fun o ho => ?_)
  refine gj_astore_n (lw' := [some (.ref b), some (.ref x), some (.ref y), some (.ref o), none, none, none]) C dL_law_19 (by decide) rfl rfl ?_
  refine gj_iconst (v := 0) C dL_law_20 (by decide) ?_
  refine gj_istore (lw' := [some (.ref b), some (.ref x), some (.ref y), some (.ref o), some (.int 0), none, none]) C dL_law_21 (by decide) rfl rfl ?_
  refine gj_nc (nc' := 10 * 512) (ns' := 2100 * 512) (by decide) (by decide) ?_
  exact law_loop hC hL (hend x y o) 512 0 _ ux uy _ 0 none (fun _ => none) [] (by omega) (by omega) (wl_start rfl hpx.2 hy hdy hpy.2 ho) wf_new
