/-! Methods that may throw, and their calls inside a handler's range. -/
theorem gz_Z {C n d : String} {v : Value} {A B : Nat → Prop} {U : State} {H : Heap} (h : va_Z C n d v A U H) (hAB : ∀ q, q < H.size → B q → A q) : va_Z C n d v B U H := by
  obtain ⟨cf, kf, fi, f, a, cell, h1, h2, h3, h4, h5, h6, h7, h8⟩ := h
  exact ⟨cf, kf, fi, f, a, cell, h1, h2, h3, h4, h5, h6, h7, fun z => h8 (hAB a (Array.getElem?_eq_some_iff.mp h5).1 z)⟩
theorem gz_L {C n d : String} {A B : Nat → Prop} {U : State} {H : Heap} (h : vx_L C n d A U H) (hAB : ∀ q, q < H.size → B q → A q) : vx_L C n d B U H := by
  obtain ⟨c, k, i, f, a, cell, h1, h2, h3, h4, h5, h6, h7, h8, h9, h10⟩ := h
  exact ⟨c, k, i, f, a, cell, h1, h2, h3, h4, h5, h6, h7, h8, h9, fun z => h10 (hAB a (Array.getElem?_eq_some_iff.mp h5).1 z)⟩
theorem gz_Zq {C n d : String} {A B : Nat → Prop} {U : State} {H : Heap} (h : vx_Zq C n d A U H) (hAB : ∀ q, q < H.size → B q → A q) : vx_Zq C n d B U H := by
  refine ⟨?_, gz_L h.2 hAB⟩
  rcases h.1 with h | ⟨t, h⟩
  · exact Or.inl (gz_Z h hAB)
  · exact Or.inr ⟨t, gz_Z h hAB⟩
/-- the statics that a throw reads lie outside the cells of A -/
def gz (A : Nat → Prop) (U : State) (H : Heap) : Prop := vx_Zq Bundle.tN "UNASSIGNED_STACK" Bundle.steD A U H ∧ vx_Zq Bundle.tN "SUPPRESSED_SENTINEL" Bundle.listD A U H
theorem gz.sub {A B : Nat → Prop} {U : State} {H : Heap} (h : gz A U H) (hAB : ∀ q, q < H.size → B q → A q) : gz B U H := ⟨gz_Zq h.1 hAB, gz_Zq h.2 hAB⟩
theorem gz.moved {A : Nat → Prop} {u U : State} {H : Heap} (hvm : u.vm.Alike U.vm) (h : gz A u H) : gz A U H := ⟨vx_Zq.moved hvm h.1, vx_Zq.moved hvm h.2⟩
theorem gz.kept {A : Nat → Prop} {U : State} {H H1 : Heap} (h : gz A U H) (hq : ∀ a : Nat, a < H.size → ¬ A a → H1[a]? = H[a]?) : gz A U H1 := ⟨vx_Zq.kept h.1 hq, vx_Zq.kept h.2 hq⟩
abbrev xIA : String := "java/lang/IllegalArgumentException"
abbrev xIS : String := "java/lang/IllegalStateException"
abbrev xNm : List String := ["java/lang/RuntimeException", "java/lang/Exception"]
def gk_NW2 : List Cond := [.castable "java/lang/IllegalArgumentException" "java/lang/IllegalArgumentException", .castable "java/lang/IllegalStateException" "java/lang/IllegalStateException", .declares ⟨"java/lang/RuntimeException", "<init>", "(Ljava/lang/String;)V"⟩, .declares ⟨"java/lang/Exception", "<init>", "(Ljava/lang/String;)V"⟩, .declares ⟨"java/lang/Throwable", "<init>", "(Ljava/lang/String;)V"⟩]
theorem gk_NW2_tbl : ∀ w ∈ gk_NW2, w ∈ lw_tbl := by decide +kernel
theorem gk_NW2_on : gk_NW2.all Cond.onTables = true := by decide +kernel
def gk_E2 (U : State) : Prop := ∀ w ∈ gk_NW2, va_Nw w U
theorem gk_E2.warm {s U : State} (hW : s.WarmedH U.vm) (h : gk_E2 s) : gk_E2 U := by
  intro w hw
  have h1 := h w hw
  unfold gk_NW2 at hw
  simp only [List.mem_cons, List.not_mem_nil, or_false] at hw
  rcases hw with rfl | rfl | rfl | rfl | rfl
  · exact va_Nw.warmC hW h1
  · exact va_Nw.warmC hW h1
  · exact va_Nw.warmD hW h1
  · exact va_Nw.warmD hW h1
  · exact va_Nw.warmD hW h1
theorem gk_E2.use {s : State} {args : Array Value} (h : gk_E2 s) : ∀ w ∈ gk_NW2, w.before args s = true := fun w hw => va_Nw.use (List.all_eq_true.mp gk_NW2_on w hw) (h w hw)
def gkx_X (px : String → gm → Prop) (D : va_G) (A : Nat → Prop) : String → State → State → Prop := fun E st t => ∃ u : gm, px E u ∧ gm_hp D vwCl A u t.heap ∧ va_F A st t
def gkx_B (D : va_G) (tys : List (ClassId × FieldType)) (f : gm) (sz : Nat) (U : State) : Prop := gk_B D tys f sz U ∧ gk_E2 U ∧ gz (fun q => f q ≠ none) U U.heap
/-- a contract of a method that returns (post answer map) or throws an E (px E map) -/
def gkx (l : Launch) (y : MethodName) (cw : Cond) (rm : Room) (D : va_G) (tys : List (ClassId × FieldType)) (av : List Value) (f : gm) (post : Option Value → gm → Prop) (px : String → gm → Prop) : Prop :=
  ∀ sz : Nat, vx_Met l y (cw :: gW) rm (va_Pc av (gkx_B D tys f sz)) (gk_Q post D (gm_A f sz)) (gkx_X px D (gm_A f sz)) rm.cells rm.slots (gm_A f sz)
theorem gz_A {f : gm} {U : State} (h : gz (fun q => f q ≠ none) U U.heap) : gz (gm_A f U.heap.size) U U.heap := h.sub (fun q hq hA => by
  rcases hA with h | h
  · exact h
  · omega)
theorem gkx_of {l : Launch} {y : MethodName} {cw : Cond} {rm : Room} {D : va_G} {tys : List (ClassId × FieldType)} {av : List Value} {f : gm} {post : Option Value → gm → Prop} {px : String → gm → Prop} {cc : ByteArray} {maxL : Nat} {ret : Option FieldType} (lw : List (Option Value))
    (hy : plainName y.cls = true) (hw : cw = Cond.code y cc maxL ret) (hlen : (lg_sl av).length ≤ maxL) (hlw : gl_l lw = lv_args 0 av)
    (body : ∀ (p : Program) (e : Env) (s : State) (m : MethodId) (args : Array Value) (below : List Frame) (meth : Method) (c : Code) (A : Nat → Prop), gx p m c cc maxL s args gW y.cls D vwCl tys A → gk_E D tys s → meth.sig.returnType = ret → meth.locks = false → meth.name = y.name → gk_E2 s → gz A s s.heap → (∀ x ∈ c.exceptionTable.toList, False) →
      gj p l e rm s m args below meth c D vwCl A maxL (vx_MQ below (gk_Q post D A) (gkx_X px D A) args s rm.cells rm.slots A) f rm.cells rm.slots 0 lw []) : gkx l y cw rm D tys av f post px := by
  intro sz
  refine vx_ofW (cc := cc) (maxL := maxL) (ret := ret) hy (by rw [hw]) ?_
  intro p e s m args below meth c s₁ B hml hT hv
  obtain ⟨rfl, ⟨hsz, hP, hE⟩, hE2, hZ⟩ := hv
  have hts := atoms_spec (ws := cw :: gW) B.pre
  have hown : s.vm.findClass y.cls = some m.cls := findClass_of_methodNamed B.named
  have hnm : meth.name = y.name := (name_of_methodNamed B.named B.method).1
  subst hsz
  have hl := lv_entry av (n := maxL) hlen
  rw [lg_entry_eq]
  refine body p e s m av.toArray below meth c (gm_A f s.heap.size) ⟨⟨B.exec, B.bytes, hml, hown, fun w hw => hts w (List.mem_cons_of_mem _ hw)⟩, hE.1, fun q hq => Or.inr hq⟩ hE B.returns B.notSynchronized hnm hE2 (gz_A hZ) hT s.heap [] 0 0 _ (fun a x ha => ⟨(hP a x ha).1, gm_A_in ha⟩) va_S.rf (by omega) (by omega) ?_
  show lv_has _ _ (gl_l lw)
  rw [hlw]
  exact hl
/-- a method with a table of its own -/
theorem gkx_ofH {l : Launch} {y : MethodName} {cw : Cond} {rm : Room} {D : va_G} {tys : List (ClassId × FieldType)} {av : List Value} {f : gm} {post : Option Value → gm → Prop} {px : String → gm → Prop} {cc : ByteArray} {maxL : Nat} {ret : Option FieldType} {hh : List (Nat × Nat × Nat × Nat)} (lw : List (Option Value))
    (hy : plainName y.cls = true) (hw : cw = Cond.codeWith y cc maxL ret hh) (hlen : (lg_sl av).length ≤ maxL) (hlw : gl_l lw = lv_args 0 av)
    (body : ∀ (p : Program) (e : Env) (s : State) (m : MethodId) (args : Array Value) (below : List Frame) (meth : Method) (c : Code) (A : Nat → Prop), gx p m c cc maxL s args gW y.cls D vwCl tys A → gk_E D tys s → meth.sig.returnType = ret → meth.locks = false → meth.name = y.name → gk_E2 s → gz A s s.heap → c.exceptionTable.toList = tableOf hh →
      gj p l e rm s m args below meth c D vwCl A maxL (vx_MQ below (gk_Q post D A) (gkx_X px D A) args s rm.cells rm.slots A) f rm.cells rm.slots 0 lw []) : gkx l y cw rm D tys av f post px := by
  intro sz
  refine vx_ofWH (cc := cc) (maxL := maxL) (ret := ret) (hh := hh) hy (by rw [hw]) ?_
  intro p e s m args below meth c s₁ B hml hv
  obtain ⟨rfl, ⟨hsz, hP, hE⟩, hE2, hZ⟩ := hv
  have hts := atoms_spec (ws := cw :: gW) B.pre
  have hown : s.vm.findClass y.cls = some m.cls := findClass_of_methodNamed B.named
  have hnm : meth.name = y.name := (name_of_methodNamed B.named B.method).1
  have hT : c.exceptionTable.toList = tableOf hh := vx_table (x := y) B (hw ▸ hts cw List.mem_cons_self)
  subst hsz
  have hl := lv_entry av (n := maxL) hlen
  rw [lg_entry_eq]
  refine body p e s m av.toArray below meth c (gm_A f s.heap.size) ⟨⟨B.exec, B.bytes, hml, hown, fun w hw => hts w (List.mem_cons_of_mem _ hw)⟩, hE.1, fun q hq => Or.inr hq⟩ hE B.returns B.notSynchronized hnm hE2 (gz_A hZ) hT s.heap [] 0 0 _ (fun a x ha => ⟨(hP a x ha).1, gm_A_in ha⟩) va_S.rf (by omega) (by omega) ?_
  show lv_has _ _ (gl_l lw)
  rw [hlw]
  exact hl
section GKX
variable {p : Program} {l : Launch} {e : Env} {R : Room} {s : State} {m : MethodId} {args : Array Value} {below : List Frame} {meth : Method} {c : Code} {D : va_G} {A : Nat → Prop} {nL : Nat} {Q : State → Prop} {f g : gm} {nc ns pc : Nat} {lw : List (Option Value)} {st rest : List Value} {cc : ByteArray} {own : String} {tys : List (ClassId × FieldType)} {post : Option Value → gm → Prop} {px : String → gm → Prop}
theorem gj_vx {Qc : Array Value → State → Outcome → State → Prop} {XC : String → State → State → Prop} (k : gj p l e R s m args below meth c D vwCl A nL (MQ below Qc args s R.cells R.slots A) f nc ns pc lw st) : gj p l e R s m args below meth c D vwCl A nL (vx_MQ below Qc XC args s R.cells R.slots A) f nc ns pc lw st :=
  fun H locs cells slots ls h1 h2 h3 h4 hl => vx_ret (k H locs cells slots ls h1 h2 h3 h4 hl)
/-- throw new E("text") -/
theorem gj_throwS (C : gx p m c cc nL s args gW own D vwCl tys A) (hV : gk_E D tys s) (hV2 : gk_E2 s) (hZ : gz A s s.heap) (hl : l.stackTraces = false) (hT : ∀ x ∈ c.exceptionTable.toList, False) (hlk : meth.locks = false) {cls text : String} {names : List String} {ik is ic : Nat}
    (d0 : decode cc pc = .ok (.new ik, 3)) (d3 : decode cc (pc + 3) = .ok (.dup, 1)) (d4 : decode cc (pc + 4) = .ok (.ldc is, 2)) (d6 : decode cc (pc + 6) = .ok (.invokespecial ic, 3)) (d9 : decode cc (pc + 9) = .ok (.athrow, 1))
    (hcls : Bundle.fit cls = true ∧ ∀ n ∈ names, Bundle.fit n = true) (hk : Cond.classLink own ik cls ∈ gW) (hini : Cond.initialized cls ∈ gW) (hs : (own, is, text) ∈ gk_ST)
    (hat1 : ∀ w ∈ (vx_atS own ic cls names).filter goodWord, w ∈ gW) (hat2 : ∀ w ∈ (vx_atS own ic cls names).filter (fun w => !goodWord w), w ∈ gk_NW2) (hgood : ∀ w ∈ Cond.classLink own ik cls :: Cond.initialized cls :: vx_atS own ic cls names, vx_ot w = true)
    (hfr : names.length + 3 < R.frames) (hlo : (st.map fun v => v.category).sum + (13 * (names.length + 1) + 43) ≤ R.locals) (hnc : 1 ≤ nc) (hns : 6 ≤ ns) (hp : px cls f) :
    gj p l e R s m args below meth c D vwCl A nL (vx_MQ below (gk_Q post D A) (gkx_X px D A) args s R.cells R.slots A) f nc ns pc lw st := by
  intro H locs cells slots ls h1 h2 h3 h4 hlw
  obtain ⟨sa, hsa⟩ := hV.2.2.2.1 _ hs
  refine vx_throwS C.1.1 C.1.2.1 hl C.1.2.2.2.1 hcls.1 hcls.2 (C.1.2.2.2.2 _ hk) (C.1.2.2.2.2 _ hini) hsa (vx_hat (fun w hw => C.1.2.2.2.2 w (hat1 w hw)) hat2 hV2.use) hgood hZ.1 hZ.2 h2 (hlw.1.trans C.1.2.2.1.symm) d0 d3 d4 d6 d9 (fun x hx => (hT x hx).elim) hfr hlo (by omega) (by omega) hlk (fun t ht1 ht2 ht3 => ?_) h2.2.2 (by omega) (by omega)
  exact ⟨f, hp, fun a x ha => ⟨(h1 a x ha).1.kept (ht3 a (h1.lt ha)), (h1 a x ha).2⟩, Nat.le_trans h2.1 ht2, fun q hq hA => (ht3 q (Nat.lt_of_lt_of_le hq h2.1)).trans (h2.2.1 q hq hA)⟩
/-- the machine with an E thrown over this frame -/
def gjx (p : Program) (l : Launch) (e : Env) (R : Room) (s : State) (m : MethodId) (args : Array Value) (below : List Frame) (meth : Method) (c : Code) (D : va_G) (A : Nat → Prop) (nL : Nat) (Q : State → Prop) (f : gm) (nc ns pc : Nat) (lw : List (Option Value)) (st : List Value) (E : String) : Prop :=
  ∀ (H : Heap) (locs : List Loc) (cells slots : Nat) (ls : Array Slot) (q : Nat) (ce : Cell), gm_hp D vwCl A f H → va_S A s.heap H locs → cells + nc ≤ R.cells → slots + ns ≤ R.slots → gl_has ls nL lw → H[q]? = some ce → ce.vm = .none → s.vm.findClass E = some ce.cls → vx_W p l e R s m args below meth c H locs cells slots Q (F0 m pc ls st) q
theorem gjx_catch (C : gx p m c cc nL s args gW own D vwCl tys A) (hV : gk_E D tys s) (hV2 : gk_E2 s) {E name : String} (pre : List ExceptionTableEntry) (x : ExceptionTableEntry) (suf : List ExceptionTableEntry) (hsplit : c.exceptionTable.toList = pre ++ x :: suf)
    (hpass : ∀ z ∈ pre, z.catchType ≠ 0 ∧ ∃ nm : String, Cond.classLink own z.catchType nm ∈ gW ∧ (E, nm) ∈ gk_NC) (hx : covers x pc = true) (h0 : x.catchType ≠ 0) (hlk : Cond.classLink own x.catchType name ∈ gW) (hcast : Cond.castable E name ∈ gk_NW2)
    (kk : ∀ q : Nat, gj p l e R s m args below meth c D vwCl A nL Q f nc ns x.handlerPc lw [.ref q]) : gjx p l e R s m args below meth c D A nL Q f nc ns pc lw st E := by
  intro H locs cells slots ls q ce h1 h2 h3 h4 hl hce hcv hcl
  refine vx_catch C.1.2.2.2.1 pre x suf hsplit (fun z hz => ?_) hx h0 (C.1.2.2.2.2 _ hlk) (hV2.use _ hcast) hce hcv hcl (kk q H locs cells slots ls h1 h2 h3 h4 hl)
  obtain ⟨hz0, nm, hz1, hz2⟩ := hpass z hz
  exact Or.inr ⟨hz0, nm, C.1.2.2.2.2 _ hz1, hV.2.2.2.2 _ hz2⟩
theorem gkx_blind {av : List Value} {sz : Nat} : FrameBlind (va_Pc av (gkx_B D tys f sz)) := fun a U g mk q => ⟨q.1, ⟨q.2.1.1, q.2.1.2.1, gk_E.warm (U := U.calling g mk a) (State.WarmedH.refl U) q.2.1.2.2⟩, gk_E2.warm (U := U.calling g mk a) (State.WarmedH.refl U) q.2.2.1, gz.moved (u := U) (U := U.calling g mk a) (Vm.Alike.refl U.vm) q.2.2.2⟩
theorem gkx_pre {H : Heap} {locs : List Loc} {As : List Value} (hE : gk_E D tys s) (hE2 : gk_E2 s) (hZ : gz A s s.heap) (h1 : gm_hp D vwCl A f H) (h2 : va_S A s.heap H locs) (hg : ∀ a x, g a = some x → f a = some x) : ∀ U : State, U.heap = H → s.WarmedH U.vm → va_Pc As (gkx_B D tys g H.size) As.toArray U := by
  intro U hU hW
  refine ⟨rfl, ⟨by rw [hU], fun a x ha => ⟨by rw [hU]; exact (h1 a x (hg a x ha)).1, trivial⟩, gk_E.warm hW hE⟩, gk_E2.warm hW hE2, ?_⟩
  rw [hU]
  refine ((gz.moved hW.alike (hZ.kept h2.2.1)).sub (fun q hq hq2 => ?_))
  cases hgq : g q with
  | none => exact absurd hgq hq2
  | some x => exact (h1 q x (hg q x hgq)).2
/-- a call that returns or throws, over the part g of the caller's map -/
theorem gj_callX {mc ms nc0 ns0 : Nat} {a : Array Value} {st0 : List Value} (C : gx p m c cc nL s args gW own D vwCl tys A) (hg : ∀ a x, g a = some x → f a = some x) (hb1 : nc + mc ≤ nc0) (hb2 : ns + ms ≤ ns0)
    (hr : ∀ (H : Heap) (locs : List Loc) (cells slots : Nat) (ls : Array Slot), gm_hp D vwCl A f H → va_S A s.heap H locs → cells + nc0 ≤ R.cells → slots + ns0 ≤ R.slots → gl_has ls nL lw → vx_Run p l e R s m args below meth c H locs cells slots mc ms (F0 m pc ls st0) rest (gk_Q post D (gm_A g H.size) a) (gkx_X px D (gm_A g H.size)) (gm_A g H.size))
    (kx : ∀ (E : String) (u : gm), px E u → (∀ q, u q ≠ none → g q ≠ none ∨ f q = none) → gjx p l e R s m args below meth c D A nL Q (gm_fr f g u) nc ns pc lw rest E)
    (kk : ∀ (v : Option Value) (u : gm), post v u → (∀ q, u q ≠ none → g q ≠ none ∨ f q = none) → gj p l e R s m args below meth c D vwCl A nL Q (gm_fr f g u) nc ns (pc + 3) lw (v.toList ++ rest)) :
    gj p l e R s m args below meth c D vwCl A nL Q f nc0 ns0 pc lw st0 := by
  intro H locs cells slots ls h1 h2 h3 h4 hl T hT X
  have hf := gk_sub C h1 h2 hg
  rcases hr H locs cells slots ls h1 h2 h3 h4 hl T hT X with ⟨v, st₀, t, T', L, h0, X', hL, e1, e2, ⟨⟨v', u, hv, hp, hb⟩, hF⟩, stp⟩ | ⟨q, st₀, t, T', L, E, ce, h0, X', hL, e1, e2, ⟨u, hp, hb, hF⟩, hce, hcv, hcl, stp⟩
  · cases hv
    obtain ⟨k2, k3⟩ := gk_keep h0 e1 h2 (fun q _ h => hf q h) hf hL hF
    rw [← e1] at hb
    obtain ⟨t2, a1, b1⟩ := kk v u hp (gk_dom h1 hb) T'.heap (locs ++ L) (cells + mc) (slots + ms) ls (gk_map h1 hf k2 hb) k3 (by omega) (by omega) hl T' rfl X'
    exact ⟨t2, stp t2 a1, b1⟩
  · obtain ⟨k2, k3⟩ := gk_keep h0 e1 h2 (fun q _ h => hf q h) hf hL hF
    rw [← e1] at hb
    obtain ⟨t2, a1, b1⟩ := kx E u hp (gk_dom h1 hb) T'.heap (locs ++ L) (cells + mc) (slots + ms) ls q ce (gk_map h1 hf k2 hb) k3 (by omega) (by omega) hl (by rw [e1]; exact hce) hcv hcl T' rfl X'
    exact ⟨t2, stp.trans a1, b1⟩
variable {y : MethodName} {cw : Cond} {rm : Room} {bytes : ByteArray} {maxL n index : Nat} {ret : Option FieldType} {As st0 : List Value} {b ci nc0 ns0 : Nat} {fs : List Value} {r : vw_C} {hh : List (Nat × Nat × Nat × Nat)}
/-- invokevirtual of a method that may throw -/
theorem gj_cVX (C : gx p m c cc nL s args gW own D vwCl tys A) (hV : gk_E D tys s) (hV2 : gk_E2 s) (hZ : gz A s s.heap) (hM : gkx l y cw rm D tys (.ref b :: As) g post px) (hg : ∀ a x, g a = some x → f a = some x) (d : decode cc pc = .ok (.invokevirtual index, 3)) (hst : st0 = As.reverse ++ .ref b :: rest) (hcw : cw ∈ gW) (hw : cw = Cond.code y bytes maxL ret) (hlk : Cond.methodLink own index y ∈ gW) (hini : Cond.initialized y.cls ∈ gW) (hin : Cond.instanceMethod y ∈ gW) (hsel : Cond.selects r.1 y y ∈ gW)
    (hd : y.cls ≠ "java/lang/invoke/MethodHandle" ∧ y.cls ≠ "java/lang/invoke/VarHandle" ∧ (parseMethodDescriptor y.desc).map (fun d => d.parameters.length) = some n) (hn : As.length = n) (hb : f b = some (.inr (ci, fs))) (hc : vwCl[ci]? = some r) (hR : rm.frames + 1 ≤ R.frames ∧ 8 + (maxL + 11) + rm.locals ≤ R.locals) (hW : (rest.map fun v => v.category).sum ≤ 8) (h1 : nc + rm.cells ≤ nc0) (h2 : ns + rm.slots ≤ ns0)
    (kx : ∀ (E : String) (u : gm), px E u → (∀ q, u q ≠ none → g q ≠ none ∨ f q = none) → gjx p l e R s m args below meth c D A nL Q (gm_fr f g u) nc ns pc lw rest E)
    (kk : ∀ (v : Option Value) (u : gm), post v u → (∀ q, u q ≠ none → g q ≠ none ∨ f q = none) → gj p l e R s m args below meth c D vwCl A nL Q (gm_fr f g u) nc ns (pc + 3) lw (v.toList ++ rest)) :
    gj p l e R s m args below meth c D vwCl A nL Q f nc0 ns0 pc lw st0 := by
  subst hst
  exact gj_callX C hg h1 h2 (fun H locs cells slots ls q1 q2 q3 q4 hl => vx_runV (As := As) (rest := rest) C.1 (hM H.size) ⟨callB_of n C.1.2.2.2.2 (gW_good hcw) (by rw [hw]) rfl rfl (C.1.2.2.2.2 _ hini) (C.1.2.2.2.2 _ hlk) hd hR, C.1.2.2.2.2 _ hin, C.1.2.2.2.2 _ hsel⟩ ⟨gkx_blind, gk_recv C q1 hb hc, gkx_pre hV hV2 hZ q1 q2 hg⟩ rfl hn hl.1 rfl (lv_room hW) d ⟨by omega, by omega⟩) kx kk
/-- invokestatic of a method with a table of its own, that never throws -/
theorem gj_cSX (C : gx p m c cc nL s args gW own D vwCl tys A) (hV : gk_E D tys s) (hV2 : gk_E2 s) (hZ : gz A s s.heap) (hM : gkx l y cw rm D tys As g post (fun _ _ => False)) (hg : ∀ a x, g a = some x → f a = some x) (d : decode cc pc = .ok (.invokestatic index, 3)) (hst : st0 = As.reverse ++ rest) (hcw : cw ∈ gW) (hw : cw = Cond.codeWith y bytes maxL ret hh) (hlk : Cond.methodLink own index y ∈ gW) (hini : Cond.initialized y.cls ∈ gW) (hstt : Cond.static y ∈ gW)
    (hd : y.cls ≠ "java/lang/invoke/MethodHandle" ∧ y.cls ≠ "java/lang/invoke/VarHandle" ∧ (parseMethodDescriptor y.desc).map (fun d => d.parameters.length) = some n) (hn : As.length = n) (hR : rm.frames + 1 ≤ R.frames ∧ 8 + (maxL + 11) + rm.locals ≤ R.locals) (hW : (rest.map fun v => v.category).sum ≤ 8) (h1 : nc + rm.cells ≤ nc0) (h2 : ns + rm.slots ≤ ns0)
    (kk : ∀ (v : Option Value) (u : gm), post v u → (∀ q, u q ≠ none → g q ≠ none ∨ f q = none) → gj p l e R s m args below meth c D vwCl A nL Q (gm_fr f g u) nc ns (pc + 3) lw (v.toList ++ rest)) :
    gj p l e R s m args below meth c D vwCl A nL Q f nc0 ns0 pc lw st0 := by
  subst hst
  have hG : GoodIn gW (cw :: gW) := gW_good hcw
  exact gj_callX C hg h1 h2 (fun H locs cells slots ls q1 q2 q3 q4 hl => vx_runSX (hh := hh) (As := As) (rest := rest) (bytes := bytes) (maxL := maxL) (ret := ret) (n := n) C.1 (hM H.size) ⟨⟨rfl, rfl, hR.1, hR.2, pay_in C.1.2.2.2.2 hG, by rw [hw]; exact List.mem_cons_self⟩, hw ▸ C.1.2.2.2.2 _ hcw, C.1.2.2.2.2 _ hini, ⟨hd.1, hd.2.1⟩, (fun sig h => by have h2 := hd.2.2; rw [h] at h2; exact (Option.some.inj h2).symm), C.1.2.2.2.2 _ hlk, C.1.2.2.2.2 _ hstt⟩ ⟨gkx_blind, gkx_pre hV hV2 hZ q1 q2 hg⟩ rfl hn hl.1 rfl (lv_room hW) d ⟨by omega, by omega⟩) (fun E u hp _ => hp.elim) kk
end GKX
theorem xfit_IA : Bundle.fit xIA = true ∧ ∀ n ∈ xNm, Bundle.fit n = true := by decide +kernel
theorem xfit_IS : Bundle.fit xIS = true ∧ ∀ n ∈ xNm, Bundle.fit n = true := by decide +kernel
theorem xat1_IA : ∀ w ∈ (vx_atS "RangeReaders" 43 xIA xNm).filter goodWord, w ∈ gW := by decide +kernel
theorem xat2_IA : ∀ w ∈ (vx_atS "RangeReaders" 43 xIA xNm).filter (fun w => !goodWord w), w ∈ gk_NW2 := by decide +kernel
theorem xat1_IS : ∀ w ∈ (vx_atS "RangeReaders" 53 xIS xNm).filter goodWord, w ∈ gW := by decide +kernel
theorem xat2_IS : ∀ w ∈ (vx_atS "RangeReaders" 53 xIS xNm).filter (fun w => !goodWord w), w ∈ gk_NW2 := by decide +kernel
theorem xgd_IA : ∀ w ∈ Cond.classLink "RangeReaders" 39 xIA :: Cond.initialized xIA :: vx_atS "RangeReaders" 43 xIA xNm, vx_ot w = true := by decide +kernel
theorem xgd_IS : ∀ w ∈ Cond.classLink "RangeReaders" 49 xIS :: Cond.initialized xIS :: vx_atS "RangeReaders" 53 xIS xNm, vx_ot w = true := by decide +kernel
