/-! Contracts over maps, and calls by them. gk_NW, gk_OV, gk_ST, gk_NC: the links across the nest, the element classes of arrays, the texts, the classes that aren't castable (a list each, above). -/
def gk_nest : Cond → Bool
  | .fieldLinkNest .. => true
  | .methodLinkNest .. => true
  | _ => false
theorem gk_nw {s U : State} {w : Cond} (hW : s.WarmedH U.vm) (hw : gk_nest w = true) (h : va_Nw w s) : va_Nw w U := by
  cases w <;> first | exact va_Nw.warmF hW h | exact va_Nw.warmM hW h | (exact absurd hw (by simp [gk_nest]))
theorem gk_NW_ok : gk_NW.all gk_nest = true := by decide +kernel
/-- what the tables say, the same at every state of the run -/
def gk_E (D : va_G) (tys : List (ClassId × FieldType)) (U : State) : Prop :=
  va_K D vwCl tys U ∧ (∀ w ∈ gk_NW, va_Nw w U) ∧ (∀ C ∈ gk_OV, va_AO C U) ∧ (∀ q ∈ gk_ST, ∃ sa : Nat, vk_R q.1 q.2.1 q.2.2 sa U) ∧ ∀ q ∈ gk_NC, va_Nc q.1 q.2 U
theorem gk_E.warm {D : va_G} {tys : List (ClassId × FieldType)} {s U : State} (hW : s.WarmedH U.vm) (h : gk_E D tys s) : gk_E D tys U := by
  obtain ⟨h1, h2, h3, h4, h5⟩ := h
  refine ⟨va_K.moved hW.alike h1, fun w hw => gk_nw hW (List.all_eq_true.mp gk_NW_ok w hw) (h2 w hw), fun C hC => va_AO.moved hW.alike (h3 C hC), fun q hq => ?_, fun q hq => va_Nc.moved hW.alike (h5 q hq)⟩
  obtain ⟨sa, hs⟩ := h4 q hq
  exact ⟨sa, vk_R.warm hW hs⟩
def gk_Q (post : Option Value → gm → Prop) (D : va_G) (A : Nat → Prop) : Array Value → State → Outcome → State → Prop := fun _ st oc t => (∃ (v : Option Value) (u : gm), oc = .returned v ∧ post v u ∧ gm_hp D vwCl A u t.heap) ∧ va_F A st t
def gk_B (D : va_G) (tys : List (ClassId × FieldType)) (f : gm) (sz : Nat) (U : State) : Prop := U.heap.size = sz ∧ gm_hp D vwCl (fun _ => True) f U.heap ∧ gk_E D tys U
/-- a contract: with the arguments av, over any heap that holds the map f, the method returns, and 'post answer map' -/
def gk (l : Launch) (y : MethodName) (cw : Cond) (rm : Room) (D : va_G) (tys : List (ClassId × FieldType)) (av : List Value) (f : gm) (post : Option Value → gm → Prop) : Prop :=
  ∀ sz : Nat, Met l y (cw :: gW) rm (va_Pc av (gk_B D tys f sz)) (gk_Q post D (gm_A f sz)) rm.cells rm.slots (gm_A f sz)
theorem gk_of {l : Launch} {y : MethodName} {cw : Cond} {rm : Room} {D : va_G} {tys : List (ClassId × FieldType)} {av : List Value} {f : gm} {post : Option Value → gm → Prop} {cc : ByteArray} {maxL : Nat} {ret : Option FieldType} (lw : List (Option Value))
    (hy : plainName y.cls = true) (hw : cw = Cond.code y cc maxL ret) (hlen : (lg_sl av).length ≤ maxL) (hlw : gl_l lw = lv_args 0 av)
    (body : ∀ (p : Program) (e : Env) (s : State) (m : MethodId) (args : Array Value) (below : List Frame) (meth : Method) (c : Code) (A : Nat → Prop), gx p m c cc maxL s args gW y.cls D vwCl tys A → gk_E D tys s → meth.sig.returnType = ret → meth.locks = false → meth.name = y.name →
      gj p l e rm s m args below meth c D vwCl A maxL (MQ below (gk_Q post D A) args s rm.cells rm.slots A) f rm.cells rm.slots 0 lw []) : gk l y cw rm D tys av f post := by
  intro sz
  refine Met.ofW (cc := cc) (maxL := maxL) (ret := ret) hy (by rw [hw]) ?_
  intro p e s m args below meth c s₁ B hml hv
  obtain ⟨rfl, hsz, hP, hE⟩ := hv
  have hts := atoms_spec (ws := cw :: gW) B.pre
  have hown : s.vm.findClass y.cls = some m.cls := findClass_of_methodNamed B.named
  have hnm : meth.name = y.name := (name_of_methodNamed B.named B.method).1
  subst hsz
  have hl := lv_entry av (n := maxL) hlen
  rw [lg_entry_eq]
  refine body p e s m av.toArray below meth c (gm_A f s.heap.size) ⟨⟨B.exec, B.bytes, hml, hown, fun w hw => hts w (List.mem_cons_of_mem _ hw)⟩, hE.1, fun q hq => Or.inr hq⟩ hE B.returns B.notSynchronized hnm s.heap [] 0 0 _ (fun a x ha => ⟨(hP a x ha).1, gm_A_in ha⟩) va_S.rf (by omega) (by omega) ?_
  show lv_has _ _ (gl_l lw)
  rw [hlw]
  exact hl
section GK
variable {p : Program} {l : Launch} {e : Env} {R : Room} {s : State} {m : MethodId} {args : Array Value} {below : List Frame} {meth : Method} {c : Code} {D : va_G} {A : Nat → Prop} {nL : Nat} {Q : State → Prop} {f g : gm} {nc ns pc : Nat} {lw : List (Option Value)} {st rest : List Value} {cc : ByteArray} {Ts : List Cond} {own : String} {tys : List (ClassId × FieldType)} {post : Option Value → gm → Prop}
theorem gj_iret (C : gx p m c cc nL s args gW own D vwCl tys A) (hr : meth.sig.returnType = some .int) (hlk : meth.locks = false) {v : Int32} (d : decode cc pc = .ok (.ireturn, 1)) (hp : post (some (.int v)) f) : gj p l e R s m args below meth c D vwCl A nL (MQ below (gk_Q post D A) args s R.cells R.slots A) f nc ns pc lw [.int v] := by
  intro H locs cells slots ls h1 h2 h3 h4 hl
  refine W.widen (k := R.cells) (n := R.slots) (by omega) (by omega) ?_
  exact W.iret C.1.1 C.1.2.1 hr (fun t ht hW => ⟨⟨_, f, rfl, hp, by rw [ht]; exact h1⟩, h2.F ht⟩) h2.2.2 d hlk
theorem gj_zret (C : gx p m c cc nL s args gW own D vwCl tys A) (hr : meth.sig.returnType = some .boolean) (hlk : meth.locks = false) {v : Int32} (d : decode cc pc = .ok (.ireturn, 1)) (hv : narrow .boolean (.int v) = .int v) (hp : post (some (.int v)) f) : gj p l e R s m args below meth c D vwCl A nL (MQ below (gk_Q post D A) args s R.cells R.slots A) f nc ns pc lw [.int v] := by
  intro H locs cells slots ls h1 h2 h3 h4 hl
  refine W.widen (k := R.cells) (n := R.slots) (by omega) (by omega) ?_
  exact W.zret C.1.1 C.1.2.1 hr hv (fun t ht hW => ⟨⟨_, f, rfl, hp, by rw [ht]; exact h1⟩, h2.F ht⟩) h2.2.2 d hlk
theorem gj_vret (C : gx p m c cc nL s args gW own D vwCl tys A) (hr : meth.sig.returnType = none) (hlk : meth.locks = false) (d : decode cc pc = .ok (.return_, 1)) (hp : post none f) : gj p l e R s m args below meth c D vwCl A nL (MQ below (gk_Q post D A) args s R.cells R.slots A) f nc ns pc lw [] := by
  intro H locs cells slots ls h1 h2 h3 h4 hl
  refine W.widen (k := R.cells) (n := R.slots) (by omega) (by omega) ?_
  exact W.vret C.1.1 C.1.2.1 hr (fun t ht hW => ⟨⟨_, f, rfl, hp, by rw [ht]; exact h1⟩, h2.F ht⟩) h2.2.2 d hlk
theorem gj_aret (C : gx p m c cc nL s args gW own D vwCl tys A) {nm : String} {v : Value} (hr : meth.sig.returnType = some (.object nm)) (hlk : meth.locks = false) (d : decode cc pc = .ok (.areturn, 1)) (hv : v = .null ∨ ∃ a, v = .ref a) (hp : post (some v) f) : gj p l e R s m args below meth c D vwCl A nL (MQ below (gk_Q post D A) args s R.cells R.slots A) f nc ns pc lw [v] := by
  intro H locs cells slots ls h1 h2 h3 h4 hl
  refine W.widen (k := R.cells) (n := R.slots) (by omega) (by omega) ?_
  exact W.aret C.1.1 C.1.2.1 hr (Or.inl ⟨nm, rfl⟩) hv (fun t ht hW => ⟨⟨_, f, rfl, hp, by rw [ht]; exact h1⟩, h2.F ht⟩) h2.2.2 d hlk
theorem gk_keep {A1 : Nat → Prop} {H0 H : Heap} {st₀ t T' : State} {locs L : List Loc} {free : Addr → Prop} (h0 : st₀.heap = H) (e1 : T'.heap = t.heap) (hS : va_S A H0 H locs) (hA : ∀ q, q < H.size → A1 q → A q) (hf : ∀ q, free q → A q) (hL : ∀ q ∈ L, free q.base) (hF : va_F A1 st₀ t) :
    (∀ q : Nat, q < H.size → ¬ A1 q → T'.heap[q]? = H[q]?) ∧ va_S A H0 T'.heap (locs ++ L) := by
  obtain ⟨hz, hk⟩ := hF
  rw [h0] at hz hk
  exact ⟨fun q h1 h2 => by rw [e1]; exact hk q h1 h2,
    ⟨Nat.le_trans hS.1 (by rw [e1]; exact hz), fun q h1 h2 => by rw [e1, hk q (Nat.lt_of_lt_of_le h1 hS.1) (fun z => h2 (hA q (Nat.lt_of_lt_of_le h1 hS.1) z))]; exact hS.2.1 q h1 h2, fun q hq => by
      rcases List.mem_append.mp hq with h | h
      · exact hS.2.2 q h
      · exact hf _ (hL q h)⟩⟩
/-- what the caller may change has in it what the callee may -/
theorem gk_sub {H : Heap} {locs : List Loc} (C : gx p m c cc nL s args gW own D vwCl tys A) (h1 : gm_hp D vwCl A f H) (h2 : va_S A s.heap H locs) (hg : ∀ a x, g a = some x → f a = some x) : ∀ q, gm_A g H.size q → A q := by
  intro q h
  rcases h with h | h
  · cases hq : g q with
    | none => exact absurd hq h
    | some x => exact (h1 q x (hg q x hq)).2
  · exact C.2.2 q (Nat.le_trans h2.1 h)
theorem gk_map {H H1 : Heap} {u : gm} (h1 : gm_hp D vwCl A f H) (hf : ∀ q, gm_A g H.size q → A q) (hk : ∀ q : Nat, q < H.size → ¬ gm_A g H.size q → H1[q]? = H[q]?) (hb : gm_hp D vwCl (gm_A g H.size) u H1) : gm_hp D vwCl A (gm_fr f g u) H1 := by
  intro b x hx
  unfold gm_fr at hx
  split at hx
  · rename_i hc
    have hlt := h1.lt hx
    have hnA : ¬ gm_A g H.size b := by
      intro h
      rcases h with h | h
      · exact h hc.1
      · omega
    exact ⟨(h1 b x hx).1.kept (hk b hlt hnA), (h1 b x hx).2⟩
  · exact ⟨(hb b x hx).1, hf b (hb b x hx).2⟩
theorem gk_dom {H H1 : Heap} {u : gm} (h1 : gm_hp D vwCl A f H) (hb : gm_hp D vwCl (gm_A g H.size) u H1) : ∀ q, u q ≠ none → g q ≠ none ∨ f q = none := by
  intro q hq
  cases hu : u q with
  | none => exact absurd hu hq
  | some x =>
    rcases (hb q x hu).2 with h | h
    · exact Or.inl h
    · right
      cases hf : f q with
      | none => rfl
      | some y => exact absurd (h1.lt hf) (by omega)
/-- a call, over the part g of the caller's map -/
theorem gj_callF {mc ms : Nat} {a : Array Value} {st0 : List Value} (C : gx p m c cc nL s args gW own D vwCl tys A) (hg : ∀ a x, g a = some x → f a = some x)
    (hr : ∀ (H : Heap) (locs : List Loc) (cells slots : Nat) (ls : Array Slot), gm_hp D vwCl A f H → va_S A s.heap H locs → cells + (nc + mc) ≤ R.cells → slots + (ns + ms) ≤ R.slots → gl_has ls nL lw → va_Run p l e R s m args below meth c H locs cells slots mc ms (F0 m pc ls st0) rest (gk_Q post D (gm_A g H.size) a) (gm_A g H.size))
    (kk : ∀ (v : Option Value) (u : gm), post v u → (∀ q, u q ≠ none → g q ≠ none ∨ f q = none) → gj p l e R s m args below meth c D vwCl A nL Q (gm_fr f g u) nc ns (pc + 3) lw (v.toList ++ rest)) :
    gj p l e R s m args below meth c D vwCl A nL Q f (nc + mc) (ns + ms) pc lw st0 := by
  intro H locs cells slots ls h1 h2 h3 h4 hl T hT X
  obtain ⟨v, st₀, t, T', L, h0, X', hL, e1, e2, ⟨⟨v', u, hv, hp, hb⟩, hF⟩, stp⟩ := hr H locs cells slots ls h1 h2 h3 h4 hl T hT X
  cases hv
  have hf := gk_sub C h1 h2 hg
  obtain ⟨k2, k3⟩ := gk_keep h0 e1 h2 (fun q _ h => hf q h) hf hL hF
  rw [← e1] at hb
  obtain ⟨t2, a1, b1⟩ := kk v u hp (gk_dom h1 hb) T'.heap (locs ++ L) (cells + mc) (slots + ms) ls (gk_map h1 hf k2 hb) k3 (by omega) (by omega) hl T' rfl X'
  exact ⟨t2, stp t2 a1, b1⟩
theorem gj_call {mc ms : Nat} {a : Array Value} {st0 : List Value} (C : gx p m c cc nL s args gW own D vwCl tys A)
    (hr : ∀ (H : Heap) (locs : List Loc) (cells slots : Nat) (ls : Array Slot), gm_hp D vwCl A f H → va_S A s.heap H locs → cells + (nc + mc) ≤ R.cells → slots + (ns + ms) ≤ R.slots → gl_has ls nL lw → va_Run p l e R s m args below meth c H locs cells slots mc ms (F0 m pc ls st0) rest (gk_Q post D (gm_A f H.size) a) (gm_A f H.size))
    (kk : ∀ (v : Option Value) (u : gm), post v u → gj p l e R s m args below meth c D vwCl A nL Q u nc ns (pc + 3) lw (v.toList ++ rest)) :
    gj p l e R s m args below meth c D vwCl A nL Q f (nc + mc) (ns + ms) pc lw st0 :=
  gj_callF C (fun _ _ h => h) hr (fun v u hp _ => gj_f gm_fr_self (kk v u hp))
/-- a contract's start holds at any frame -/
theorem gk_blind {av : List Value} {sz : Nat} : FrameBlind (va_Pc av (gk_B D tys f sz)) := fun a U g mk q => ⟨q.1, q.2.1, q.2.2.1, gk_E.warm (U := U.calling g mk a) (State.WarmedH.refl U) q.2.2.2⟩
theorem gk_pre {H : Heap} {As : List Value} (hE : gk_E D tys s) (h1 : gm_hp D vwCl A f H) (hg : ∀ a x, g a = some x → f a = some x) : ∀ U : State, U.heap = H → s.WarmedH U.vm → va_Pc As (gk_B D tys g H.size) As.toArray U :=
  fun U hU hW => ⟨rfl, by rw [hU], fun a x ha => ⟨by rw [hU]; exact (h1 a x (hg a x ha)).1, trivial⟩, gk_E.warm hW hE⟩
theorem gk_recv {H : Heap} {a ci : Nat} {fs : List Value} {r : vw_C} (C : gx p m c cc nL s args gW own D vwCl tys A) (h1 : gm_hp D vwCl A f H) (ha : f a = some (.inr (ci, fs))) (hc : vwCl[ci]? = some r) : ∃ cell : Cell, H[a]? = some cell ∧ cell.vm.isStatics = false ∧ s.vm.findClass r.1 = some cell.cls := va_recv C.2.1 (gm_one h1 ha) hc (q0 := 0) rfl
variable {y : MethodName} {cw : Cond} {rm : Room} {bytes : ByteArray} {maxL n index : Nat} {ret : Option FieldType} {As st0 : List Value} {b ci nc0 ns0 : Nat} {fs : List Value} {r : vw_C} {host : String}
/-- invokevirtual of a method of the receiver's own class -/
theorem gj_cV (C : gx p m c cc nL s args gW own D vwCl tys A) (hE : gk_E D tys s) (hM : gk l y cw rm D tys (.ref b :: As) f post) (d : decode cc pc = .ok (.invokevirtual index, 3)) (hst : st0 = As.reverse ++ .ref b :: rest) (hcw : cw ∈ gW) (hw : cw = Cond.code y bytes maxL ret) (hlk : Cond.methodLink own index y ∈ gW) (hini : Cond.initialized y.cls ∈ gW) (hin : Cond.instanceMethod y ∈ gW) (hsel : Cond.selects r.1 y y ∈ gW)
    (hd : y.cls ≠ "java/lang/invoke/MethodHandle" ∧ y.cls ≠ "java/lang/invoke/VarHandle" ∧ (parseMethodDescriptor y.desc).map (fun d => d.parameters.length) = some n) (hn : As.length = n) (hb : f b = some (.inr (ci, fs))) (hc : vwCl[ci]? = some r) (hR : rm.frames + 1 ≤ R.frames ∧ 8 + (maxL + 11) + rm.locals ≤ R.locals) (hW : (rest.map fun v => v.category).sum ≤ 8)
    (h1 : nc + rm.cells ≤ nc0) (h2 : ns + rm.slots ≤ ns0) (kk : ∀ (v : Option Value) (u : gm), post v u → gj p l e R s m args below meth c D vwCl A nL Q u nc ns (pc + 3) lw (v.toList ++ rest)) :
    gj p l e R s m args below meth c D vwCl A nL Q f nc0 ns0 pc lw st0 := by
  subst hst
  exact gj_nc h1 h2 <| gj_call C (fun H locs cells slots ls h1 h2 h3 h4 hl => va_runV (As := As) (rest := rest) C.1 (hM H.size) ⟨callB_of n C.1.2.2.2.2 (gW_good hcw) (by rw [hw]) rfl rfl (C.1.2.2.2.2 _ hini) (C.1.2.2.2.2 _ hlk) hd hR, C.1.2.2.2.2 _ hin, C.1.2.2.2.2 _ hsel⟩ ⟨gk_blind, gk_recv C h1 hb hc, gk_pre hE h1 (fun _ _ h => h)⟩ rfl hn hl.1 rfl (lv_room hW) d ⟨by omega, by omega⟩) kk
/-- a private method of a nest mate -/
theorem gj_cVN (C : gx p m c cc nL s args gW own D vwCl tys A) (hE : gk_E D tys s) (hM : gk l y cw rm D tys (.ref b :: As) f post) (d : decode cc pc = .ok (.invokevirtual index, 3)) (hst : st0 = As.reverse ++ .ref b :: rest) (hcw : cw ∈ gW) (hw : cw = Cond.code y bytes maxL ret) (hNw : Cond.methodLinkNest own index y host ∈ gk_NW) (hini : Cond.initialized y.cls ∈ gW) (hin : Cond.instanceMethod y ∈ gW) (hsel : Cond.selects r.1 y y ∈ gW)
    (hd : y.cls ≠ "java/lang/invoke/MethodHandle" ∧ y.cls ≠ "java/lang/invoke/VarHandle" ∧ (parseMethodDescriptor y.desc).map (fun d => d.parameters.length) = some n) (hn : As.length = n) (hb : f b = some (.inr (ci, fs))) (hc : vwCl[ci]? = some r) (hR : rm.frames + 1 ≤ R.frames ∧ 8 + (maxL + 11) + rm.locals ≤ R.locals) (hW : (rest.map fun v => v.category).sum ≤ 8)
    (h1 : nc + rm.cells ≤ nc0) (h2 : ns + rm.slots ≤ ns0) (kk : ∀ (v : Option Value) (u : gm), post v u → gj p l e R s m args below meth c D vwCl A nL Q u nc ns (pc + 3) lw (v.toList ++ rest)) :
    gj p l e R s m args below meth c D vwCl A nL Q f nc0 ns0 pc lw st0 := by
  subst hst
  exact gj_nc h1 h2 <| gj_call C (fun H locs cells slots ls h1 h2 h3 h4 hl => va_runVN (As := As) (rest := rest) C.1 (hM H.size) ⟨va_cnB n C.1.2.2.2.2 (gW_good hcw) (by rw [hw]) rfl rfl (hE.2.1 _ hNw) (C.1.2.2.2.2 _ hini) hd hR, C.1.2.2.2.2 _ hin, C.1.2.2.2.2 _ hsel⟩ ⟨gk_blind, gk_recv C h1 hb hc, gk_pre hE h1 (fun _ _ h => h)⟩ rfl hn hl.1 rfl (lv_room hW) d ⟨by omega, by omega⟩) kk
/-- invokestatic, of the own class -/
theorem gj_cS (C : gx p m c cc nL s args gW own D vwCl tys A) (hE : gk_E D tys s) (hM : gk l y cw rm D tys As f post) (d : decode cc pc = .ok (.invokestatic index, 3)) (hst : st0 = As.reverse ++ rest) (hcw : cw ∈ gW) (hw : cw = Cond.code y bytes maxL ret) (hlk : Cond.methodLink own index y ∈ gW) (hini : Cond.initialized y.cls ∈ gW) (hstt : Cond.static y ∈ gW)
    (hd : y.cls ≠ "java/lang/invoke/MethodHandle" ∧ y.cls ≠ "java/lang/invoke/VarHandle" ∧ (parseMethodDescriptor y.desc).map (fun d => d.parameters.length) = some n) (hn : As.length = n) (hR : rm.frames + 1 ≤ R.frames ∧ 8 + (maxL + 11) + rm.locals ≤ R.locals) (hW : (rest.map fun v => v.category).sum ≤ 8)
    (h1 : nc + rm.cells ≤ nc0) (h2 : ns + rm.slots ≤ ns0) (kk : ∀ (v : Option Value) (u : gm), post v u → gj p l e R s m args below meth c D vwCl A nL Q u nc ns (pc + 3) lw (v.toList ++ rest)) :
    gj p l e R s m args below meth c D vwCl A nL Q f nc0 ns0 pc lw st0 := by
  subst hst
  exact gj_nc h1 h2 <| gj_call C (fun H locs cells slots ls h1 h2 h3 h4 hl => va_runS (As := As) (rest := rest) C.1 (hM H.size) ⟨callB_of n C.1.2.2.2.2 (gW_good hcw) (by rw [hw]) rfl rfl (C.1.2.2.2.2 _ hini) (C.1.2.2.2.2 _ hlk) hd hR, C.1.2.2.2.2 _ hstt⟩ ⟨gk_blind, gk_pre hE h1 (fun _ _ h => h)⟩ rfl hn hl.1 rfl (lv_room hW) d ⟨by omega, by omega⟩) kk
/-- a private static method of a nest mate -/
theorem gj_cSN (C : gx p m c cc nL s args gW own D vwCl tys A) (hE : gk_E D tys s) (hM : gk l y cw rm D tys As f post) (d : decode cc pc = .ok (.invokestatic index, 3)) (hst : st0 = As.reverse ++ rest) (hcw : cw ∈ gW) (hw : cw = Cond.code y bytes maxL ret) (hNw : Cond.methodLinkNest own index y host ∈ gk_NW) (hini : Cond.initialized y.cls ∈ gW) (hstt : Cond.static y ∈ gW)
    (hd : y.cls ≠ "java/lang/invoke/MethodHandle" ∧ y.cls ≠ "java/lang/invoke/VarHandle" ∧ (parseMethodDescriptor y.desc).map (fun d => d.parameters.length) = some n) (hn : As.length = n) (hR : rm.frames + 1 ≤ R.frames ∧ 8 + (maxL + 11) + rm.locals ≤ R.locals) (hW : (rest.map fun v => v.category).sum ≤ 8)
    (h1 : nc + rm.cells ≤ nc0) (h2 : ns + rm.slots ≤ ns0) (kk : ∀ (v : Option Value) (u : gm), post v u → gj p l e R s m args below meth c D vwCl A nL Q u nc ns (pc + 3) lw (v.toList ++ rest)) :
    gj p l e R s m args below meth c D vwCl A nL Q f nc0 ns0 pc lw st0 := by
  subst hst
  exact gj_nc h1 h2 <| gj_call C (fun H locs cells slots ls h1 h2 h3 h4 hl => va_runSN (As := As) (rest := rest) C.1 (hM H.size) ⟨va_cnB n C.1.2.2.2.2 (gW_good hcw) (by rw [hw]) rfl rfl (hE.2.1 _ hNw) (C.1.2.2.2.2 _ hini) hd hR, C.1.2.2.2.2 _ hstt, trivial⟩ ⟨gk_blind, gk_pre hE h1 (fun _ _ h => h)⟩ rfl hn hl.1 rfl (lv_room hW) d ⟨by omega, by omega⟩) kk
/-- a private constructor of a nest mate -/
theorem gj_cIN (C : gx p m c cc nL s args gW own D vwCl tys A) (hE : gk_E D tys s) (hM : gk l y cw rm D tys (.ref b :: As) f post) (d : decode cc pc = .ok (.invokespecial index, 3)) (hst : st0 = As.reverse ++ .ref b :: rest) (hcw : cw ∈ gW) (hw : cw = Cond.code y bytes maxL none) (hNw : Cond.methodLinkNest own index y host ∈ gk_NW) (hini : Cond.initialized y.cls ∈ gW) (hin : Cond.instanceMethod y ∈ gW) (hy1 : y.name = "<init>")
    (hd : y.cls ≠ "java/lang/invoke/MethodHandle" ∧ y.cls ≠ "java/lang/invoke/VarHandle" ∧ (parseMethodDescriptor y.desc).map (fun d => d.parameters.length) = some n) (hn : As.length = n) (hR : rm.frames + 1 ≤ R.frames ∧ 8 + (maxL + 11) + rm.locals ≤ R.locals) (hW : (rest.map fun v => v.category).sum ≤ 8)
    (h1 : nc + rm.cells ≤ nc0) (h2 : ns + rm.slots ≤ ns0) (kk : ∀ (v : Option Value) (u : gm), post v u → gj p l e R s m args below meth c D vwCl A nL Q u nc ns (pc + 3) lw (v.toList ++ rest)) :
    gj p l e R s m args below meth c D vwCl A nL Q f nc0 ns0 pc lw st0 := by
  subst hst
  exact gj_nc h1 h2 <| gj_call C (fun H locs cells slots ls h1 h2 h3 h4 hl => va_runIN (As := As) (rest := rest) C.1 (hM H.size) ⟨va_cnB n C.1.2.2.2.2 (gW_good hcw) (by rw [hw]) rfl rfl (hE.2.1 _ hNw) (C.1.2.2.2.2 _ hini) hd hR, hy1, C.1.2.2.2.2 _ hin⟩ ⟨gk_blind, gk_pre hE h1 (fun _ _ h => h)⟩ rfl hn hl.1 rfl (lv_room hW) d ⟨by omega, by omega⟩) kk
/-- a constructor -/
theorem gj_cI (C : gx p m c cc nL s args gW own D vwCl tys A) (hE : gk_E D tys s) (hM : gk l y cw rm D tys (.ref b :: As) f post) (d : decode cc pc = .ok (.invokespecial index, 3)) (hst : st0 = As.reverse ++ .ref b :: rest) (hcw : cw ∈ gW) (hw : cw = Cond.code y bytes maxL none) (hlk : Cond.methodLink own index y ∈ gW) (hini : Cond.initialized y.cls ∈ gW) (hin : Cond.instanceMethod y ∈ gW) (hy1 : y.name = "<init>")
    (hd : y.cls ≠ "java/lang/invoke/MethodHandle" ∧ y.cls ≠ "java/lang/invoke/VarHandle" ∧ (parseMethodDescriptor y.desc).map (fun d => d.parameters.length) = some n) (hn : As.length = n) (hR : rm.frames + 1 ≤ R.frames ∧ 8 + (maxL + 11) + rm.locals ≤ R.locals) (hW : (rest.map fun v => v.category).sum ≤ 8)
    (h1 : nc + rm.cells ≤ nc0) (h2 : ns + rm.slots ≤ ns0) (kk : ∀ (v : Option Value) (u : gm), post v u → gj p l e R s m args below meth c D vwCl A nL Q u nc ns (pc + 3) lw (v.toList ++ rest)) :
    gj p l e R s m args below meth c D vwCl A nL Q f nc0 ns0 pc lw st0 := by
  subst hst
  exact gj_nc h1 h2 <| gj_call C (fun H locs cells slots ls h1 h2 h3 h4 hl => va_runI (As := As) (rest := rest) C.1 (hM H.size) (cwI n C.1.2.2.2.2 (gW_good hcw) (by rw [hw]) rfl rfl (C.1.2.2.2.2 _ hini) (C.1.2.2.2.2 _ hlk) (C.1.2.2.2.2 _ hin) hy1 hd hR) ⟨gk_blind, gk_pre hE h1 (fun _ _ h => h)⟩ rfl hn hl.1 rfl (lv_room hW) d ⟨by omega, by omega⟩) kk
theorem gj_st {st' : List Value} (h : st = st') (kk : gj p l e R s m args below meth c D vwCl A nL Q f nc ns pc lw st') : gj p l e R s m args below meth c D vwCl A nL Q f nc ns pc lw st := h ▸ kk
theorem gj_rt {v w : Option Value} {u : gm} {st' : List Value} (hv : v = w) (hu : u = f) (hst : w.toList ++ rest = st') (kk : gj p l e R s m args below meth c D vwCl A nL Q f nc ns pc lw st') : gj p l e R s m args below meth c D vwCl A nL Q u nc ns pc lw (v.toList ++ rest) := by
  subst hv; subst hu; subst hst; exact kk
end GK
theorem gm_ne {f : gm} {a b : Nat} {x y : va_E} (ha : f a = some x) (hb : f b = some y) (h : x ≠ y) : a ≠ b := fun e => h (Option.some.inj (ha.symm.trans (e ▸ hb)))
/-- a method's room: its level, what it makes -/
def rmk (k c s : Nat) : Room := { frames := k + 1, cells := c, slots := s, locals := 20 + 33 * k }
